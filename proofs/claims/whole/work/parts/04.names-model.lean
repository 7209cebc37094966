theorem dX10_init_0 : decode cX10_init 0 = .ok (.aload_n 0, 1) := by decide +kernel
theorem dX10_init_1 : decode cX10_init 1 = .ok (.invokespecial 1, 3) := by decide +kernel
theorem dX10_init_4 : decode cX10_init 4 = .ok (.aload_n 0, 1) := by decide +kernel
theorem dX10_init_5 : decode cX10_init 5 = .ok (.sipush 880, 3) := by decide +kernel
theorem dX10_init_8 : decode cX10_init 8 = .ok (.newarray .int, 2) := by decide +kernel
theorem dX10_init_10 : decode cX10_init 10 = .ok (.putfield 7, 3) := by decide +kernel
theorem dX10_init_13 : decode cX10_init 13 = .ok (.aload_n 0, 1) := by decide +kernel
theorem dX10_init_14 : decode cX10_init 14 = .ok (.sipush 880, 3) := by decide +kernel
theorem dX10_init_17 : decode cX10_init 17 = .ok (.newarray .long, 2) := by decide +kernel
theorem dX10_init_19 : decode cX10_init 19 = .ok (.putfield 13, 3) := by decide +kernel
theorem dX10_init_22 : decode cX10_init 22 = .ok (.aload_n 0, 1) := by decide +kernel
theorem dX10_init_23 : decode cX10_init 23 = .ok (.sipush 880, 3) := by decide +kernel
theorem dX10_init_26 : decode cX10_init 26 = .ok (.newarray .double, 2) := by decide +kernel
theorem dX10_init_28 : decode cX10_init 28 = .ok (.putfield 17, 3) := by decide +kernel
theorem dX10_init_31 : decode cX10_init 31 = .ok (.aload_n 0, 1) := by decide +kernel
theorem dX10_init_32 : decode cX10_init 32 = .ok (.bipush 27, 2) := by decide +kernel
theorem dX10_init_34 : decode cX10_init 34 = .ok (.newarray .int, 2) := by decide +kernel
theorem dX10_init_36 : decode cX10_init 36 = .ok (.putfield 21, 3) := by decide +kernel
theorem dX10_init_39 : decode cX10_init 39 = .ok (.aload_n 0, 1) := by decide +kernel
theorem dX10_init_40 : decode cX10_init 40 = .ok (.bipush 27, 2) := by decide +kernel
theorem dX10_init_42 : decode cX10_init 42 = .ok (.newarray .int, 2) := by decide +kernel
theorem dX10_init_44 : decode cX10_init 44 = .ok (.putfield 24, 3) := by decide +kernel
theorem dX10_init_47 : decode cX10_init 47 = .ok (.aload_n 0, 1) := by decide +kernel
theorem dX10_init_48 : decode cX10_init 48 = .ok (.bipush 8, 2) := by decide +kernel
theorem dX10_init_50 : decode cX10_init 50 = .ok (.newarray .int, 2) := by decide +kernel
theorem dX10_init_52 : decode cX10_init 52 = .ok (.putfield 27, 3) := by decide +kernel
theorem dX10_init_55 : decode cX10_init 55 = .ok (.aload_n 0, 1) := by decide +kernel
theorem dX10_init_56 : decode cX10_init 56 = .ok (.iconst 4, 1) := by decide +kernel
theorem dX10_init_57 : decode cX10_init 57 = .ok (.newarray .int, 2) := by decide +kernel
theorem dX10_init_59 : decode cX10_init 59 = .ok (.putfield 30, 3) := by decide +kernel
theorem dX10_init_62 : decode cX10_init 62 = .ok (.aload_n 0, 1) := by decide +kernel
theorem dX10_init_63 : decode cX10_init 63 = .ok (.sipush 441, 3) := by decide +kernel
theorem dX10_init_66 : decode cX10_init 66 = .ok (.newarray .int, 2) := by decide +kernel
theorem dX10_init_68 : decode cX10_init 68 = .ok (.putfield 33, 3) := by decide +kernel
theorem dX10_init_71 : decode cX10_init 71 = .ok (.aload_n 0, 1) := by decide +kernel
theorem dX10_init_72 : decode cX10_init 72 = .ok (.bipush 40, 2) := by decide +kernel
theorem dX10_init_74 : decode cX10_init 74 = .ok (.newarray .int, 2) := by decide +kernel
theorem dX10_init_76 : decode cX10_init 76 = .ok (.putfield 36, 3) := by decide +kernel
theorem dX10_init_79 : decode cX10_init 79 = .ok (.aload_n 0, 1) := by decide +kernel
theorem dX10_init_80 : decode cX10_init 80 = .ok (.bipush 40, 2) := by decide +kernel
theorem dX10_init_82 : decode cX10_init 82 = .ok (.newarray .int, 2) := by decide +kernel
theorem dX10_init_84 : decode cX10_init 84 = .ok (.putfield 39, 3) := by decide +kernel
theorem dX10_init_87 : decode cX10_init 87 = .ok (.aload_n 0, 1) := by decide +kernel
theorem dX10_init_88 : decode cX10_init 88 = .ok (.bipush 40, 2) := by decide +kernel
theorem dX10_init_90 : decode cX10_init 90 = .ok (.newarray .int, 2) := by decide +kernel
theorem dX10_init_92 : decode cX10_init 92 = .ok (.putfield 42, 3) := by decide +kernel
theorem dX10_init_95 : decode cX10_init 95 = .ok (.aload_n 0, 1) := by decide +kernel
theorem dX10_init_96 : decode cX10_init 96 = .ok (.bipush 40, 2) := by decide +kernel
theorem dX10_init_98 : decode cX10_init 98 = .ok (.newarray .int, 2) := by decide +kernel
theorem dX10_init_100 : decode cX10_init 100 = .ok (.putfield 45, 3) := by decide +kernel
theorem dX10_init_103 : decode cX10_init 103 = .ok (.aload_n 0, 1) := by decide +kernel
theorem dX10_init_104 : decode cX10_init 104 = .ok (.bipush 40, 2) := by decide +kernel
theorem dX10_init_106 : decode cX10_init 106 = .ok (.newarray .boolean, 2) := by decide +kernel
theorem dX10_init_108 : decode cX10_init 108 = .ok (.putfield 48, 3) := by decide +kernel
theorem dX10_init_111 : decode cX10_init 111 = .ok (.aload_n 0, 1) := by decide +kernel
theorem dX10_init_112 : decode cX10_init 112 = .ok (.bipush 40, 2) := by decide +kernel
theorem dX10_init_114 : decode cX10_init 114 = .ok (.newarray .boolean, 2) := by decide +kernel
theorem dX10_init_116 : decode cX10_init 116 = .ok (.putfield 52, 3) := by decide +kernel
theorem dX10_init_119 : decode cX10_init 119 = .ok (.aload_n 0, 1) := by decide +kernel
theorem dX10_init_120 : decode cX10_init 120 = .ok (.iconst 4, 1) := by decide +kernel
theorem dX10_init_121 : decode cX10_init 121 = .ok (.newarray .boolean, 2) := by decide +kernel
theorem dX10_init_123 : decode cX10_init 123 = .ok (.putfield 55, 3) := by decide +kernel
theorem dX10_init_126 : decode cX10_init 126 = .ok (.aload_n 0, 1) := by decide +kernel
theorem dX10_init_127 : decode cX10_init 127 = .ok (.iconst 4, 1) := by decide +kernel
theorem dX10_init_128 : decode cX10_init 128 = .ok (.newarray .int, 2) := by decide +kernel
theorem dX10_init_130 : decode cX10_init 130 = .ok (.putfield 58, 3) := by decide +kernel
theorem dX10_init_133 : decode cX10_init 133 = .ok (.aload_n 0, 1) := by decide +kernel
theorem dX10_init_134 : decode cX10_init 134 = .ok (.sipush 160, 3) := by decide +kernel
theorem dX10_init_137 : decode cX10_init 137 = .ok (.newarray .int, 2) := by decide +kernel
theorem dX10_init_139 : decode cX10_init 139 = .ok (.putfield 61, 3) := by decide +kernel
theorem dX10_init_142 : decode cX10_init 142 = .ok (.aload_n 0, 1) := by decide +kernel
theorem dX10_init_143 : decode cX10_init 143 = .ok (.iconst 2, 1) := by decide +kernel
theorem dX10_init_144 : decode cX10_init 144 = .ok (.newarray .boolean, 2) := by decide +kernel
theorem dX10_init_146 : decode cX10_init 146 = .ok (.putfield 64, 3) := by decide +kernel
theorem dX10_init_149 : decode cX10_init 149 = .ok (.aload_n 0, 1) := by decide +kernel
theorem dX10_init_150 : decode cX10_init 150 = .ok (.bipush 16, 2) := by decide +kernel
theorem dX10_init_152 : decode cX10_init 152 = .ok (.newarray .int, 2) := by decide +kernel
theorem dX10_init_154 : decode cX10_init 154 = .ok (.putfield 67, 3) := by decide +kernel
theorem dX10_init_157 : decode cX10_init 157 = .ok (.iconst 0, 1) := by decide +kernel
theorem dX10_init_158 : decode cX10_init 158 = .ok (.istore_n 1, 1) := by decide +kernel
theorem dX10_init_159 : decode cX10_init 159 = .ok (.iload_n 1, 1) := by decide +kernel
theorem dX10_init_160 : decode cX10_init 160 = .ok (.bipush 8, 2) := by decide +kernel
theorem dX10_init_162 : decode cX10_init 162 = .ok (.if_icmp .ge 16, 3) := by decide +kernel
theorem dX10_init_165 : decode cX10_init 165 = .ok (.aload_n 0, 1) := by decide +kernel
theorem dX10_init_166 : decode cX10_init 166 = .ok (.getfield 27, 3) := by decide +kernel
theorem dX10_init_169 : decode cX10_init 169 = .ok (.iload_n 1, 1) := by decide +kernel
theorem dX10_init_170 : decode cX10_init 170 = .ok (.iconst (-1), 1) := by decide +kernel
theorem dX10_init_171 : decode cX10_init 171 = .ok (.iastore, 1) := by decide +kernel
theorem dX10_init_172 : decode cX10_init 172 = .ok (.iinc 1 1, 3) := by decide +kernel
theorem dX10_init_175 : decode cX10_init 175 = .ok (.goto (-16), 3) := by decide +kernel
theorem dX10_init_178 : decode cX10_init 178 = .ok (.aload_n 0, 1) := by decide +kernel
theorem dX10_init_179 : decode cX10_init 179 = .ok (.getfield 30, 3) := by decide +kernel
theorem dX10_init_182 : decode cX10_init 182 = .ok (.iconst 1, 1) := by decide +kernel
theorem dX10_init_183 : decode cX10_init 183 = .ok (.iconst 3, 1) := by decide +kernel
theorem dX10_init_184 : decode cX10_init 184 = .ok (.iastore, 1) := by decide +kernel
theorem dX10_init_185 : decode cX10_init 185 = .ok (.aload_n 0, 1) := by decide +kernel
theorem dX10_init_186 : decode cX10_init 186 = .ok (.getfield 30, 3) := by decide +kernel
theorem dX10_init_189 : decode cX10_init 189 = .ok (.iconst 2, 1) := by decide +kernel
theorem dX10_init_190 : decode cX10_init 190 = .ok (.iconst 2, 1) := by decide +kernel
theorem dX10_init_191 : decode cX10_init 191 = .ok (.iastore, 1) := by decide +kernel
theorem dX10_init_192 : decode cX10_init 192 = .ok (.aload_n 0, 1) := by decide +kernel
theorem dX10_init_193 : decode cX10_init 193 = .ok (.getfield 30, 3) := by decide +kernel
theorem dX10_init_196 : decode cX10_init 196 = .ok (.iconst 3, 1) := by decide +kernel
theorem dX10_init_197 : decode cX10_init 197 = .ok (.iconst 1, 1) := by decide +kernel
theorem dX10_init_198 : decode cX10_init 198 = .ok (.iastore, 1) := by decide +kernel
theorem dX10_init_199 : decode cX10_init 199 = .ok (.return_, 1) := by decide +kernel
theorem dX10_in_0 : decode cX10_in 0 = .ok (.lload_n 0, 1) := by decide +kernel
theorem dX10_in_1 : decode cX10_in 1 = .ok (.lload_n 2, 1) := by decide +kernel
theorem dX10_in_2 : decode cX10_in 2 = .ok (.lcmp, 1) := by decide +kernel
theorem dX10_in_3 : decode cX10_in 3 = .ok (.ifCond .lt 14, 3) := by decide +kernel
theorem dX10_in_6 : decode cX10_in 6 = .ok (.lload_n 0, 1) := by decide +kernel
theorem dX10_in_7 : decode cX10_in 7 = .ok (.lload 4, 2) := by decide +kernel
theorem dX10_in_9 : decode cX10_in 9 = .ok (.lcmp, 1) := by decide +kernel
theorem dX10_in_10 : decode cX10_in 10 = .ok (.ifCond .gt 7, 3) := by decide +kernel
theorem dX10_in_13 : decode cX10_in 13 = .ok (.iconst 1, 1) := by decide +kernel
theorem dX10_in_14 : decode cX10_in 14 = .ok (.goto 4, 3) := by decide +kernel
theorem dX10_in_17 : decode cX10_in 17 = .ok (.iconst 0, 1) := by decide +kernel
theorem dX10_in_18 : decode cX10_in 18 = .ok (.ireturn, 1) := by decide +kernel
theorem dX10_flag_0 : decode cX10_flag 0 = .ok (.iload_n 0, 1) := by decide +kernel
theorem dX10_flag_1 : decode cX10_flag 1 = .ok (.ifCond .eq 7, 3) := by decide +kernel
theorem dX10_flag_4 : decode cX10_flag 4 = .ok (.iconst 1, 1) := by decide +kernel
theorem dX10_flag_5 : decode cX10_flag 5 = .ok (.goto 4, 3) := by decide +kernel
theorem dX10_flag_8 : decode cX10_flag 8 = .ok (.iconst 0, 1) := by decide +kernel
theorem dX10_flag_9 : decode cX10_flag 9 = .ok (.ireturn, 1) := by decide +kernel
theorem dX10_isNumber_0 : decode cX10_isNumber 0 = .ok (.iload_n 0, 1) := by decide +kernel
theorem dX10_isNumber_1 : decode cX10_isNumber 1 = .ok (.i2l, 1) := by decide +kernel
theorem dX10_isNumber_2 : decode cX10_isNumber 2 = .ok (.lconst 0, 1) := by decide +kernel
theorem dX10_isNumber_3 : decode cX10_isNumber 3 = .ok (.ldc2_w 70, 3) := by decide +kernel
theorem dX10_isNumber_6 : decode cX10_isNumber 6 = .ok (.invokestatic 72, 3) := by decide +kernel
theorem dX10_isNumber_9 : decode cX10_isNumber 9 = .ok (.ireturn, 1) := by decide +kernel
theorem dX10_goesInto_0 : decode cX10_goesInto 0 = .ok (.iload_n 1, 1) := by decide +kernel
theorem dX10_goesInto_1 : decode cX10_goesInto 1 = .ok (.bipush 9, 2) := by decide +kernel
theorem dX10_goesInto_3 : decode cX10_goesInto 3 = .ok (.if_icmp .ne 5, 3) := by decide +kernel
theorem dX10_goesInto_6 : decode cX10_goesInto 6 = .ok (.iconst 1, 1) := by decide +kernel
theorem dX10_goesInto_7 : decode cX10_goesInto 7 = .ok (.ireturn, 1) := by decide +kernel
theorem dX10_goesInto_8 : decode cX10_goesInto 8 = .ok (.iload_n 1, 1) := by decide +kernel
theorem dX10_goesInto_9 : decode cX10_goesInto 9 = .ok (.bipush 7, 2) := by decide +kernel
theorem dX10_goesInto_11 : decode cX10_goesInto 11 = .ok (.if_icmp .le 20, 3) := by decide +kernel
theorem dX10_goesInto_14 : decode cX10_goesInto 14 = .ok (.iload_n 0, 1) := by decide +kernel
theorem dX10_goesInto_15 : decode cX10_goesInto 15 = .ok (.bipush 9, 2) := by decide +kernel
theorem dX10_goesInto_17 : decode cX10_goesInto 17 = .ok (.if_icmp .eq 8, 3) := by decide +kernel
theorem dX10_goesInto_20 : decode cX10_goesInto 20 = .ok (.iload_n 0, 1) := by decide +kernel
theorem dX10_goesInto_21 : decode cX10_goesInto 21 = .ok (.iload_n 1, 1) := by decide +kernel
theorem dX10_goesInto_22 : decode cX10_goesInto 22 = .ok (.if_icmp .ne 7, 3) := by decide +kernel
theorem dX10_goesInto_25 : decode cX10_goesInto 25 = .ok (.iconst 1, 1) := by decide +kernel
theorem dX10_goesInto_26 : decode cX10_goesInto 26 = .ok (.goto 4, 3) := by decide +kernel
theorem dX10_goesInto_29 : decode cX10_goesInto 29 = .ok (.iconst 0, 1) := by decide +kernel
theorem dX10_goesInto_30 : decode cX10_goesInto 30 = .ok (.ireturn, 1) := by decide +kernel
theorem dX10_goesInto_31 : decode cX10_goesInto 31 = .ok (.iload_n 0, 1) := by decide +kernel
theorem dX10_goesInto_32 : decode cX10_goesInto 32 = .ok (.invokestatic 76, 3) := by decide +kernel
theorem dX10_goesInto_35 : decode cX10_goesInto 35 = .ok (.ifCond .ne 5, 3) := by decide +kernel
theorem dX10_goesInto_38 : decode cX10_goesInto 38 = .ok (.iconst 0, 1) := by decide +kernel
theorem dX10_goesInto_39 : decode cX10_goesInto 39 = .ok (.ireturn, 1) := by decide +kernel
theorem dX10_goesInto_40 : decode cX10_goesInto 40 = .ok (.iload_n 0, 1) := by decide +kernel
theorem dX10_goesInto_41 : decode cX10_goesInto 41 = .ok (.iload_n 1, 1) := by decide +kernel
theorem dX10_goesInto_42 : decode cX10_goesInto 42 = .ok (.if_icmp .eq 27, 3) := by decide +kernel
theorem dX10_goesInto_45 : decode cX10_goesInto 45 = .ok (.iload_n 0, 1) := by decide +kernel
theorem dX10_goesInto_46 : decode cX10_goesInto 46 = .ok (.ifCond .le 27, 3) := by decide +kernel
theorem dX10_goesInto_49 : decode cX10_goesInto 49 = .ok (.iload_n 1, 1) := by decide +kernel
theorem dX10_goesInto_50 : decode cX10_goesInto 50 = .ok (.iload_n 0, 1) := by decide +kernel
theorem dX10_goesInto_51 : decode cX10_goesInto 51 = .ok (.if_icmp .le 22, 3) := by decide +kernel
theorem dX10_goesInto_54 : decode cX10_goesInto 54 = .ok (.iload_n 1, 1) := by decide +kernel
theorem dX10_goesInto_55 : decode cX10_goesInto 55 = .ok (.iconst 3, 1) := by decide +kernel
theorem dX10_goesInto_56 : decode cX10_goesInto 56 = .ok (.if_icmp .lt 17, 3) := by decide +kernel
theorem dX10_goesInto_59 : decode cX10_goesInto 59 = .ok (.iload_n 0, 1) := by decide +kernel
theorem dX10_goesInto_60 : decode cX10_goesInto 60 = .ok (.iconst 2, 1) := by decide +kernel
theorem dX10_goesInto_61 : decode cX10_goesInto 61 = .ok (.if_icmp .ne 8, 3) := by decide +kernel
theorem dX10_goesInto_64 : decode cX10_goesInto 64 = .ok (.iload_n 1, 1) := by decide +kernel
theorem dX10_goesInto_65 : decode cX10_goesInto 65 = .ok (.iconst 3, 1) := by decide +kernel
theorem dX10_goesInto_66 : decode cX10_goesInto 66 = .ok (.if_icmp .eq 7, 3) := by decide +kernel
theorem dX10_goesInto_69 : decode cX10_goesInto 69 = .ok (.iconst 1, 1) := by decide +kernel
theorem dX10_goesInto_70 : decode cX10_goesInto 70 = .ok (.goto 4, 3) := by decide +kernel
theorem dX10_goesInto_73 : decode cX10_goesInto 73 = .ok (.iconst 0, 1) := by decide +kernel
theorem dX10_goesInto_74 : decode cX10_goesInto 74 = .ok (.ireturn, 1) := by decide +kernel
theorem dX10_joinOf_0 : decode cX10_joinOf 0 = .ok (.iconst 0, 1) := by decide +kernel
theorem dX10_joinOf_1 : decode cX10_joinOf 1 = .ok (.istore_n 2, 1) := by decide +kernel
theorem dX10_joinOf_2 : decode cX10_joinOf 2 = .ok (.iload_n 2, 1) := by decide +kernel
theorem dX10_joinOf_3 : decode cX10_joinOf 3 = .ok (.bipush 7, 2) := by decide +kernel
theorem dX10_joinOf_5 : decode cX10_joinOf 5 = .ok (.if_icmp .gt 41, 3) := by decide +kernel
theorem dX10_joinOf_8 : decode cX10_joinOf 8 = .ok (.iload_n 0, 1) := by decide +kernel
theorem dX10_joinOf_9 : decode cX10_joinOf 9 = .ok (.invokestatic 76, 3) := by decide +kernel
theorem dX10_joinOf_12 : decode cX10_joinOf 12 = .ok (.ifCond .eq 34, 3) := by decide +kernel
theorem dX10_joinOf_15 : decode cX10_joinOf 15 = .ok (.iload_n 1, 1) := by decide +kernel
theorem dX10_joinOf_16 : decode cX10_joinOf 16 = .ok (.invokestatic 76, 3) := by decide +kernel
theorem dX10_joinOf_19 : decode cX10_joinOf 19 = .ok (.ifCond .eq 27, 3) := by decide +kernel
theorem dX10_joinOf_22 : decode cX10_joinOf 22 = .ok (.iload_n 0, 1) := by decide +kernel
theorem dX10_joinOf_23 : decode cX10_joinOf 23 = .ok (.iload_n 2, 1) := by decide +kernel
theorem dX10_joinOf_24 : decode cX10_joinOf 24 = .ok (.invokestatic 80, 3) := by decide +kernel
theorem dX10_joinOf_27 : decode cX10_joinOf 27 = .ok (.ifCond .eq 13, 3) := by decide +kernel
theorem dX10_joinOf_30 : decode cX10_joinOf 30 = .ok (.iload_n 1, 1) := by decide +kernel
theorem dX10_joinOf_31 : decode cX10_joinOf 31 = .ok (.iload_n 2, 1) := by decide +kernel
theorem dX10_joinOf_32 : decode cX10_joinOf 32 = .ok (.invokestatic 80, 3) := by decide +kernel
theorem dX10_joinOf_35 : decode cX10_joinOf 35 = .ok (.ifCond .eq 5, 3) := by decide +kernel
theorem dX10_joinOf_38 : decode cX10_joinOf 38 = .ok (.iload_n 2, 1) := by decide +kernel
theorem dX10_joinOf_39 : decode cX10_joinOf 39 = .ok (.ireturn, 1) := by decide +kernel
theorem dX10_joinOf_40 : decode cX10_joinOf 40 = .ok (.iinc 2 1, 3) := by decide +kernel
theorem dX10_joinOf_43 : decode cX10_joinOf 43 = .ok (.goto (-41), 3) := by decide +kernel
theorem dX10_joinOf_46 : decode cX10_joinOf 46 = .ok (.bipush (-4), 2) := by decide +kernel
theorem dX10_joinOf_48 : decode cX10_joinOf 48 = .ok (.ireturn, 1) := by decide +kernel
theorem dX10_lays_0 : decode cX10_lays 0 = .ok (.aload_n 0, 1) := by decide +kernel
theorem dX10_lays_1 : decode cX10_lays 1 = .ok (.getfield 7, 3) := by decide +kernel
theorem dX10_lays_4 : decode cX10_lays 4 = .ok (.iload_n 1, 1) := by decide +kernel
theorem dX10_lays_5 : decode cX10_lays 5 = .ok (.iload_n 2, 1) := by decide +kernel
theorem dX10_lays_6 : decode cX10_lays 6 = .ok (.iastore, 1) := by decide +kernel
theorem dX10_lays_7 : decode cX10_lays 7 = .ok (.aload_n 0, 1) := by decide +kernel
theorem dX10_lays_8 : decode cX10_lays 8 = .ok (.getfield 13, 3) := by decide +kernel
theorem dX10_lays_11 : decode cX10_lays 11 = .ok (.iload_n 1, 1) := by decide +kernel
theorem dX10_lays_12 : decode cX10_lays 12 = .ok (.lload_n 3, 1) := by decide +kernel
theorem dX10_lays_13 : decode cX10_lays 13 = .ok (.lastore, 1) := by decide +kernel
theorem dX10_lays_14 : decode cX10_lays 14 = .ok (.aload_n 0, 1) := by decide +kernel
theorem dX10_lays_15 : decode cX10_lays 15 = .ok (.getfield 17, 3) := by decide +kernel
theorem dX10_lays_18 : decode cX10_lays 18 = .ok (.iload_n 1, 1) := by decide +kernel
theorem dX10_lays_19 : decode cX10_lays 19 = .ok (.dload 5, 2) := by decide +kernel
theorem dX10_lays_21 : decode cX10_lays 21 = .ok (.dastore, 1) := by decide +kernel
theorem dX10_lays_22 : decode cX10_lays 22 = .ok (.return_, 1) := by decide +kernel
theorem dX10_fractionOf_0 : decode cX10_fractionOf 0 = .ok (.aload_n 0, 1) := by decide +kernel
theorem dX10_fractionOf_1 : decode cX10_fractionOf 1 = .ok (.getfield 7, 3) := by decide +kernel
theorem dX10_fractionOf_4 : decode cX10_fractionOf 4 = .ok (.iload_n 1, 1) := by decide +kernel
theorem dX10_fractionOf_5 : decode cX10_fractionOf 5 = .ok (.iaload, 1) := by decide +kernel
theorem dX10_fractionOf_6 : decode cX10_fractionOf 6 = .ok (.bipush 6, 2) := by decide +kernel
theorem dX10_fractionOf_8 : decode cX10_fractionOf 8 = .ok (.if_icmp .lt 10, 3) := by decide +kernel
theorem dX10_fractionOf_11 : decode cX10_fractionOf 11 = .ok (.aload_n 0, 1) := by decide +kernel
theorem dX10_fractionOf_12 : decode cX10_fractionOf 12 = .ok (.getfield 17, 3) := by decide +kernel
theorem dX10_fractionOf_15 : decode cX10_fractionOf 15 = .ok (.iload_n 1, 1) := by decide +kernel
theorem dX10_fractionOf_16 : decode cX10_fractionOf 16 = .ok (.daload, 1) := by decide +kernel
theorem dX10_fractionOf_17 : decode cX10_fractionOf 17 = .ok (.dreturn, 1) := by decide +kernel
theorem dX10_fractionOf_18 : decode cX10_fractionOf 18 = .ok (.iload_n 2, 1) := by decide +kernel
theorem dX10_fractionOf_19 : decode cX10_fractionOf 19 = .ok (.bipush 6, 2) := by decide +kernel
theorem dX10_fractionOf_21 : decode cX10_fractionOf 21 = .ok (.if_icmp .ne 14, 3) := by decide +kernel
theorem dX10_fractionOf_24 : decode cX10_fractionOf 24 = .ok (.aload_n 0, 1) := by decide +kernel
theorem dX10_fractionOf_25 : decode cX10_fractionOf 25 = .ok (.getfield 13, 3) := by decide +kernel
theorem dX10_fractionOf_28 : decode cX10_fractionOf 28 = .ok (.iload_n 1, 1) := by decide +kernel
theorem dX10_fractionOf_29 : decode cX10_fractionOf 29 = .ok (.laload, 1) := by decide +kernel
theorem dX10_fractionOf_30 : decode cX10_fractionOf 30 = .ok (.l2f, 1) := by decide +kernel
theorem dX10_fractionOf_31 : decode cX10_fractionOf 31 = .ok (.f2d, 1) := by decide +kernel
theorem dX10_fractionOf_32 : decode cX10_fractionOf 32 = .ok (.goto 10, 3) := by decide +kernel
theorem dX10_fractionOf_35 : decode cX10_fractionOf 35 = .ok (.aload_n 0, 1) := by decide +kernel
theorem dX10_fractionOf_36 : decode cX10_fractionOf 36 = .ok (.getfield 13, 3) := by decide +kernel
theorem dX10_fractionOf_39 : decode cX10_fractionOf 39 = .ok (.iload_n 1, 1) := by decide +kernel
theorem dX10_fractionOf_40 : decode cX10_fractionOf 40 = .ok (.laload, 1) := by decide +kernel
theorem dX10_fractionOf_41 : decode cX10_fractionOf 41 = .ok (.l2d, 1) := by decide +kernel
theorem dX10_fractionOf_42 : decode cX10_fractionOf 42 = .ok (.dreturn, 1) := by decide +kernel
theorem dX10_widens_0 : decode cX10_widens 0 = .ok (.iload_n 2, 1) := by decide +kernel
theorem dX10_widens_1 : decode cX10_widens 1 = .ok (.bipush 7, 2) := by decide +kernel
theorem dX10_widens_3 : decode cX10_widens 3 = .ok (.if_icmp .le 29, 3) := by decide +kernel
theorem dX10_widens_6 : decode cX10_widens 6 = .ok (.aload_n 0, 1) := by decide +kernel
theorem dX10_widens_7 : decode cX10_widens 7 = .ok (.iload_n 3, 1) := by decide +kernel
theorem dX10_widens_8 : decode cX10_widens 8 = .ok (.aload_n 0, 1) := by decide +kernel
theorem dX10_widens_9 : decode cX10_widens 9 = .ok (.getfield 7, 3) := by decide +kernel
theorem dX10_widens_12 : decode cX10_widens 12 = .ok (.iload_n 1, 1) := by decide +kernel
theorem dX10_widens_13 : decode cX10_widens 13 = .ok (.iaload, 1) := by decide +kernel
theorem dX10_widens_14 : decode cX10_widens 14 = .ok (.aload_n 0, 1) := by decide +kernel
theorem dX10_widens_15 : decode cX10_widens 15 = .ok (.getfield 13, 3) := by decide +kernel
theorem dX10_widens_18 : decode cX10_widens 18 = .ok (.iload_n 1, 1) := by decide +kernel
theorem dX10_widens_19 : decode cX10_widens 19 = .ok (.laload, 1) := by decide +kernel
theorem dX10_widens_20 : decode cX10_widens 20 = .ok (.aload_n 0, 1) := by decide +kernel
theorem dX10_widens_21 : decode cX10_widens 21 = .ok (.getfield 17, 3) := by decide +kernel
theorem dX10_widens_24 : decode cX10_widens 24 = .ok (.iload_n 1, 1) := by decide +kernel
theorem dX10_widens_25 : decode cX10_widens 25 = .ok (.daload, 1) := by decide +kernel
theorem dX10_widens_26 : decode cX10_widens 26 = .ok (.invokevirtual 84, 3) := by decide +kernel
theorem dX10_widens_29 : decode cX10_widens 29 = .ok (.goto 38, 3) := by decide +kernel
theorem dX10_widens_32 : decode cX10_widens 32 = .ok (.iload_n 2, 1) := by decide +kernel
theorem dX10_widens_33 : decode cX10_widens 33 = .ok (.bipush 6, 2) := by decide +kernel
theorem dX10_widens_35 : decode cX10_widens 35 = .ok (.if_icmp .lt 19, 3) := by decide +kernel
theorem dX10_widens_38 : decode cX10_widens 38 = .ok (.aload_n 0, 1) := by decide +kernel
theorem dX10_widens_39 : decode cX10_widens 39 = .ok (.iload_n 3, 1) := by decide +kernel
theorem dX10_widens_40 : decode cX10_widens 40 = .ok (.iload_n 2, 1) := by decide +kernel
theorem dX10_widens_41 : decode cX10_widens 41 = .ok (.lconst 0, 1) := by decide +kernel
theorem dX10_widens_42 : decode cX10_widens 42 = .ok (.aload_n 0, 1) := by decide +kernel
theorem dX10_widens_43 : decode cX10_widens 43 = .ok (.iload_n 1, 1) := by decide +kernel
theorem dX10_widens_44 : decode cX10_widens 44 = .ok (.iload_n 2, 1) := by decide +kernel
theorem dX10_widens_45 : decode cX10_widens 45 = .ok (.invokevirtual 88, 3) := by decide +kernel
theorem dX10_widens_48 : decode cX10_widens 48 = .ok (.invokevirtual 84, 3) := by decide +kernel
theorem dX10_widens_51 : decode cX10_widens 51 = .ok (.goto 16, 3) := by decide +kernel
theorem dX10_widens_54 : decode cX10_widens 54 = .ok (.aload_n 0, 1) := by decide +kernel
theorem dX10_widens_55 : decode cX10_widens 55 = .ok (.iload_n 3, 1) := by decide +kernel
theorem dX10_widens_56 : decode cX10_widens 56 = .ok (.iload_n 2, 1) := by decide +kernel
theorem dX10_widens_57 : decode cX10_widens 57 = .ok (.aload_n 0, 1) := by decide +kernel
theorem dX10_widens_58 : decode cX10_widens 58 = .ok (.getfield 13, 3) := by decide +kernel
theorem dX10_widens_61 : decode cX10_widens 61 = .ok (.iload_n 1, 1) := by decide +kernel
theorem dX10_widens_62 : decode cX10_widens 62 = .ok (.laload, 1) := by decide +kernel
theorem dX10_widens_63 : decode cX10_widens 63 = .ok (.dconst 0, 1) := by decide +kernel
theorem dX10_widens_64 : decode cX10_widens 64 = .ok (.invokevirtual 84, 3) := by decide +kernel
theorem dX10_widens_67 : decode cX10_widens 67 = .ok (.return_, 1) := by decide +kernel
theorem dX10_bitsOf_0 : decode cX10_bitsOf 0 = .ok (.iload_n 0, 1) := by decide +kernel
theorem dX10_bitsOf_1 : decode cX10_bitsOf 1 = .ok (.bipush 6, 2) := by decide +kernel
theorem dX10_bitsOf_3 : decode cX10_bitsOf 3 = .ok (.if_icmp .ne 12, 3) := by decide +kernel
theorem dX10_bitsOf_6 : decode cX10_bitsOf 6 = .ok (.dload_n 1, 1) := by decide +kernel
theorem dX10_bitsOf_7 : decode cX10_bitsOf 7 = .ok (.d2f, 1) := by decide +kernel
theorem dX10_bitsOf_8 : decode cX10_bitsOf 8 = .ok (.invokestatic 92, 3) := by decide +kernel
theorem dX10_bitsOf_11 : decode cX10_bitsOf 11 = .ok (.i2l, 1) := by decide +kernel
theorem dX10_bitsOf_12 : decode cX10_bitsOf 12 = .ok (.goto 7, 3) := by decide +kernel
theorem dX10_bitsOf_15 : decode cX10_bitsOf 15 = .ok (.dload_n 1, 1) := by decide +kernel
theorem dX10_bitsOf_16 : decode cX10_bitsOf 16 = .ok (.invokestatic 98, 3) := by decide +kernel
theorem dX10_bitsOf_19 : decode cX10_bitsOf 19 = .ok (.lreturn, 1) := by decide +kernel
theorem dX10_amountOf_0 : decode cX10_amountOf 0 = .ok (.aload_n 0, 1) := by decide +kernel
theorem dX10_amountOf_1 : decode cX10_amountOf 1 = .ok (.getfield 7, 3) := by decide +kernel
theorem dX10_amountOf_4 : decode cX10_amountOf 4 = .ok (.iload_n 1, 1) := by decide +kernel
theorem dX10_amountOf_5 : decode cX10_amountOf 5 = .ok (.iaload, 1) := by decide +kernel
theorem dX10_amountOf_6 : decode cX10_amountOf 6 = .ok (.bipush 9, 2) := by decide +kernel
theorem dX10_amountOf_8 : decode cX10_amountOf 8 = .ok (.if_icmp .ne 5, 3) := by decide +kernel
theorem dX10_amountOf_11 : decode cX10_amountOf 11 = .ok (.lconst 0, 1) := by decide +kernel
theorem dX10_amountOf_12 : decode cX10_amountOf 12 = .ok (.lreturn, 1) := by decide +kernel
theorem dX10_amountOf_13 : decode cX10_amountOf 13 = .ok (.iload_n 2, 1) := by decide +kernel
theorem dX10_amountOf_14 : decode cX10_amountOf 14 = .ok (.bipush 6, 2) := by decide +kernel
theorem dX10_amountOf_16 : decode cX10_amountOf 16 = .ok (.if_icmp .eq 9, 3) := by decide +kernel
theorem dX10_amountOf_19 : decode cX10_amountOf 19 = .ok (.iload_n 2, 1) := by decide +kernel
theorem dX10_amountOf_20 : decode cX10_amountOf 20 = .ok (.bipush 7, 2) := by decide +kernel
theorem dX10_amountOf_22 : decode cX10_amountOf 22 = .ok (.if_icmp .ne 16, 3) := by decide +kernel
theorem dX10_amountOf_25 : decode cX10_amountOf 25 = .ok (.iload_n 2, 1) := by decide +kernel
theorem dX10_amountOf_26 : decode cX10_amountOf 26 = .ok (.aload_n 0, 1) := by decide +kernel
theorem dX10_amountOf_27 : decode cX10_amountOf 27 = .ok (.iload_n 1, 1) := by decide +kernel
theorem dX10_amountOf_28 : decode cX10_amountOf 28 = .ok (.iload_n 2, 1) := by decide +kernel
theorem dX10_amountOf_29 : decode cX10_amountOf 29 = .ok (.invokevirtual 88, 3) := by decide +kernel
theorem dX10_amountOf_32 : decode cX10_amountOf 32 = .ok (.invokestatic 104, 3) := by decide +kernel
theorem dX10_amountOf_35 : decode cX10_amountOf 35 = .ok (.goto 9, 3) := by decide +kernel
theorem dX10_amountOf_38 : decode cX10_amountOf 38 = .ok (.aload_n 0, 1) := by decide +kernel
theorem dX10_amountOf_39 : decode cX10_amountOf 39 = .ok (.getfield 13, 3) := by decide +kernel
theorem dX10_amountOf_42 : decode cX10_amountOf 42 = .ok (.iload_n 1, 1) := by decide +kernel
theorem dX10_amountOf_43 : decode cX10_amountOf 43 = .ok (.laload, 1) := by decide +kernel
theorem dX10_amountOf_44 : decode cX10_amountOf 44 = .ok (.lreturn, 1) := by decide +kernel
theorem dX10_areAlike_0 : decode cX10_areAlike 0 = .ok (.aload_n 0, 1) := by decide +kernel
theorem dX10_areAlike_1 : decode cX10_areAlike 1 = .ok (.getfield 7, 3) := by decide +kernel
theorem dX10_areAlike_4 : decode cX10_areAlike 4 = .ok (.iload_n 1, 1) := by decide +kernel
theorem dX10_areAlike_5 : decode cX10_areAlike 5 = .ok (.iaload, 1) := by decide +kernel
theorem dX10_areAlike_6 : decode cX10_areAlike 6 = .ok (.aload_n 0, 1) := by decide +kernel
theorem dX10_areAlike_7 : decode cX10_areAlike 7 = .ok (.getfield 7, 3) := by decide +kernel
theorem dX10_areAlike_10 : decode cX10_areAlike 10 = .ok (.iload_n 2, 1) := by decide +kernel
theorem dX10_areAlike_11 : decode cX10_areAlike 11 = .ok (.iaload, 1) := by decide +kernel
theorem dX10_areAlike_12 : decode cX10_areAlike 12 = .ok (.invokestatic 108, 3) := by decide +kernel
theorem dX10_areAlike_15 : decode cX10_areAlike 15 = .ok (.istore_n 3, 1) := by decide +kernel
theorem dX10_areAlike_16 : decode cX10_areAlike 16 = .ok (.iload_n 3, 1) := by decide +kernel
theorem dX10_areAlike_17 : decode cX10_areAlike 17 = .ok (.bipush (-4), 2) := by decide +kernel
theorem dX10_areAlike_19 : decode cX10_areAlike 19 = .ok (.if_icmp .ne 63, 3) := by decide +kernel
theorem dX10_areAlike_22 : decode cX10_areAlike 22 = .ok (.aload_n 0, 1) := by decide +kernel
theorem dX10_areAlike_23 : decode cX10_areAlike 23 = .ok (.getfield 7, 3) := by decide +kernel
theorem dX10_areAlike_26 : decode cX10_areAlike 26 = .ok (.iload_n 1, 1) := by decide +kernel
theorem dX10_areAlike_27 : decode cX10_areAlike 27 = .ok (.iaload, 1) := by decide +kernel
theorem dX10_areAlike_28 : decode cX10_areAlike 28 = .ok (.invokestatic 76, 3) := by decide +kernel
theorem dX10_areAlike_31 : decode cX10_areAlike 31 = .ok (.ifCond .ne 49, 3) := by decide +kernel
theorem dX10_areAlike_34 : decode cX10_areAlike 34 = .ok (.aload_n 0, 1) := by decide +kernel
theorem dX10_areAlike_35 : decode cX10_areAlike 35 = .ok (.getfield 7, 3) := by decide +kernel
theorem dX10_areAlike_38 : decode cX10_areAlike 38 = .ok (.iload_n 1, 1) := by decide +kernel
theorem dX10_areAlike_39 : decode cX10_areAlike 39 = .ok (.iaload, 1) := by decide +kernel
theorem dX10_areAlike_40 : decode cX10_areAlike 40 = .ok (.aload_n 0, 1) := by decide +kernel
theorem dX10_areAlike_41 : decode cX10_areAlike 41 = .ok (.getfield 7, 3) := by decide +kernel
theorem dX10_areAlike_44 : decode cX10_areAlike 44 = .ok (.iload_n 2, 1) := by decide +kernel
theorem dX10_areAlike_45 : decode cX10_areAlike 45 = .ok (.iaload, 1) := by decide +kernel
theorem dX10_areAlike_46 : decode cX10_areAlike 46 = .ok (.if_icmp .ne 34, 3) := by decide +kernel
theorem dX10_areAlike_49 : decode cX10_areAlike 49 = .ok (.aload_n 0, 1) := by decide +kernel
theorem dX10_areAlike_50 : decode cX10_areAlike 50 = .ok (.getfield 7, 3) := by decide +kernel
theorem dX10_areAlike_53 : decode cX10_areAlike 53 = .ok (.iload_n 1, 1) := by decide +kernel
theorem dX10_areAlike_54 : decode cX10_areAlike 54 = .ok (.iaload, 1) := by decide +kernel
theorem dX10_areAlike_55 : decode cX10_areAlike 55 = .ok (.bipush 9, 2) := by decide +kernel
theorem dX10_areAlike_57 : decode cX10_areAlike 57 = .ok (.if_icmp .eq 19, 3) := by decide +kernel
theorem dX10_areAlike_60 : decode cX10_areAlike 60 = .ok (.aload_n 0, 1) := by decide +kernel
theorem dX10_areAlike_61 : decode cX10_areAlike 61 = .ok (.getfield 13, 3) := by decide +kernel
theorem dX10_areAlike_64 : decode cX10_areAlike 64 = .ok (.iload_n 1, 1) := by decide +kernel
theorem dX10_areAlike_65 : decode cX10_areAlike 65 = .ok (.laload, 1) := by decide +kernel
theorem dX10_areAlike_66 : decode cX10_areAlike 66 = .ok (.aload_n 0, 1) := by decide +kernel
theorem dX10_areAlike_67 : decode cX10_areAlike 67 = .ok (.getfield 13, 3) := by decide +kernel
theorem dX10_areAlike_70 : decode cX10_areAlike 70 = .ok (.iload_n 2, 1) := by decide +kernel
theorem dX10_areAlike_71 : decode cX10_areAlike 71 = .ok (.laload, 1) := by decide +kernel
theorem dX10_areAlike_72 : decode cX10_areAlike 72 = .ok (.lcmp, 1) := by decide +kernel
theorem dX10_areAlike_73 : decode cX10_areAlike 73 = .ok (.ifCond .ne 7, 3) := by decide +kernel
theorem dX10_areAlike_76 : decode cX10_areAlike 76 = .ok (.iconst 1, 1) := by decide +kernel
theorem dX10_areAlike_77 : decode cX10_areAlike 77 = .ok (.goto 4, 3) := by decide +kernel
theorem dX10_areAlike_80 : decode cX10_areAlike 80 = .ok (.iconst 0, 1) := by decide +kernel
theorem dX10_areAlike_81 : decode cX10_areAlike 81 = .ok (.ireturn, 1) := by decide +kernel
theorem dX10_areAlike_82 : decode cX10_areAlike 82 = .ok (.iload_n 3, 1) := by decide +kernel
theorem dX10_areAlike_83 : decode cX10_areAlike 83 = .ok (.bipush 6, 2) := by decide +kernel
theorem dX10_areAlike_85 : decode cX10_areAlike 85 = .ok (.if_icmp .lt 27, 3) := by decide +kernel
theorem dX10_areAlike_88 : decode cX10_areAlike 88 = .ok (.aload_n 0, 1) := by decide +kernel
theorem dX10_areAlike_89 : decode cX10_areAlike 89 = .ok (.iload_n 1, 1) := by decide +kernel
theorem dX10_areAlike_90 : decode cX10_areAlike 90 = .ok (.iload_n 3, 1) := by decide +kernel
theorem dX10_areAlike_91 : decode cX10_areAlike 91 = .ok (.invokevirtual 88, 3) := by decide +kernel
theorem dX10_areAlike_94 : decode cX10_areAlike 94 = .ok (.aload_n 0, 1) := by decide +kernel
theorem dX10_areAlike_95 : decode cX10_areAlike 95 = .ok (.iload_n 2, 1) := by decide +kernel
theorem dX10_areAlike_96 : decode cX10_areAlike 96 = .ok (.iload_n 3, 1) := by decide +kernel
theorem dX10_areAlike_97 : decode cX10_areAlike 97 = .ok (.invokevirtual 88, 3) := by decide +kernel
theorem dX10_areAlike_100 : decode cX10_areAlike 100 = .ok (.dcmp .l, 1) := by decide +kernel
theorem dX10_areAlike_101 : decode cX10_areAlike 101 = .ok (.ifCond .ne 7, 3) := by decide +kernel
theorem dX10_areAlike_104 : decode cX10_areAlike 104 = .ok (.iconst 1, 1) := by decide +kernel
theorem dX10_areAlike_105 : decode cX10_areAlike 105 = .ok (.goto 28, 3) := by decide +kernel
theorem dX10_areAlike_108 : decode cX10_areAlike 108 = .ok (.iconst 0, 1) := by decide +kernel
theorem dX10_areAlike_109 : decode cX10_areAlike 109 = .ok (.goto 24, 3) := by decide +kernel
theorem dX10_areAlike_112 : decode cX10_areAlike 112 = .ok (.aload_n 0, 1) := by decide +kernel
theorem dX10_areAlike_113 : decode cX10_areAlike 113 = .ok (.getfield 13, 3) := by decide +kernel
theorem dX10_areAlike_116 : decode cX10_areAlike 116 = .ok (.iload_n 1, 1) := by decide +kernel
theorem dX10_areAlike_117 : decode cX10_areAlike 117 = .ok (.laload, 1) := by decide +kernel
theorem dX10_areAlike_118 : decode cX10_areAlike 118 = .ok (.aload_n 0, 1) := by decide +kernel
theorem dX10_areAlike_119 : decode cX10_areAlike 119 = .ok (.getfield 13, 3) := by decide +kernel
theorem dX10_areAlike_122 : decode cX10_areAlike 122 = .ok (.iload_n 2, 1) := by decide +kernel
theorem dX10_areAlike_123 : decode cX10_areAlike 123 = .ok (.laload, 1) := by decide +kernel
theorem dX10_areAlike_124 : decode cX10_areAlike 124 = .ok (.lcmp, 1) := by decide +kernel
theorem dX10_areAlike_125 : decode cX10_areAlike 125 = .ok (.ifCond .ne 7, 3) := by decide +kernel
theorem dX10_areAlike_128 : decode cX10_areAlike 128 = .ok (.iconst 1, 1) := by decide +kernel
theorem dX10_areAlike_129 : decode cX10_areAlike 129 = .ok (.goto 4, 3) := by decide +kernel
theorem dX10_areAlike_132 : decode cX10_areAlike 132 = .ok (.iconst 0, 1) := by decide +kernel
theorem dX10_areAlike_133 : decode cX10_areAlike 133 = .ok (.ireturn, 1) := by decide +kernel
theorem dX10_areNear_0 : decode cX10_areNear 0 = .ok (.aload_n 0, 1) := by decide +kernel
theorem dX10_areNear_1 : decode cX10_areNear 1 = .ok (.getfield 7, 3) := by decide +kernel
theorem dX10_areNear_4 : decode cX10_areNear 4 = .ok (.iload_n 1, 1) := by decide +kernel
theorem dX10_areNear_5 : decode cX10_areNear 5 = .ok (.iaload, 1) := by decide +kernel
theorem dX10_areNear_6 : decode cX10_areNear 6 = .ok (.aload_n 0, 1) := by decide +kernel
theorem dX10_areNear_7 : decode cX10_areNear 7 = .ok (.getfield 7, 3) := by decide +kernel
theorem dX10_areNear_10 : decode cX10_areNear 10 = .ok (.iload_n 2, 1) := by decide +kernel
theorem dX10_areNear_11 : decode cX10_areNear 11 = .ok (.iaload, 1) := by decide +kernel
theorem dX10_areNear_12 : decode cX10_areNear 12 = .ok (.invokestatic 108, 3) := by decide +kernel
theorem dX10_areNear_15 : decode cX10_areNear 15 = .ok (.istore_n 3, 1) := by decide +kernel
theorem dX10_areNear_16 : decode cX10_areNear 16 = .ok (.iload_n 3, 1) := by decide +kernel
theorem dX10_areNear_17 : decode cX10_areNear 17 = .ok (.iconst 1, 1) := by decide +kernel
theorem dX10_areNear_18 : decode cX10_areNear 18 = .ok (.if_icmp .lt 12, 3) := by decide +kernel
theorem dX10_areNear_21 : decode cX10_areNear 21 = .ok (.aload_n 0, 1) := by decide +kernel
theorem dX10_areNear_22 : decode cX10_areNear 22 = .ok (.iload_n 1, 1) := by decide +kernel
theorem dX10_areNear_23 : decode cX10_areNear 23 = .ok (.iload_n 2, 1) := by decide +kernel
theorem dX10_areNear_24 : decode cX10_areNear 24 = .ok (.invokevirtual 112, 3) := by decide +kernel
theorem dX10_areNear_27 : decode cX10_areNear 27 = .ok (.ifCond .eq 5, 3) := by decide +kernel
theorem dX10_areNear_30 : decode cX10_areNear 30 = .ok (.iconst 0, 1) := by decide +kernel
theorem dX10_areNear_31 : decode cX10_areNear 31 = .ok (.ireturn, 1) := by decide +kernel
theorem dX10_areNear_32 : decode cX10_areNear 32 = .ok (.iload_n 3, 1) := by decide +kernel
theorem dX10_areNear_33 : decode cX10_areNear 33 = .ok (.bipush 6, 2) := by decide +kernel
theorem dX10_areNear_35 : decode cX10_areNear 35 = .ok (.if_icmp .lt 57, 3) := by decide +kernel
theorem dX10_areNear_38 : decode cX10_areNear 38 = .ok (.aload_n 0, 1) := by decide +kernel
theorem dX10_areNear_39 : decode cX10_areNear 39 = .ok (.iload_n 1, 1) := by decide +kernel
theorem dX10_areNear_40 : decode cX10_areNear 40 = .ok (.iload_n 3, 1) := by decide +kernel
theorem dX10_areNear_41 : decode cX10_areNear 41 = .ok (.invokevirtual 88, 3) := by decide +kernel
theorem dX10_areNear_44 : decode cX10_areNear 44 = .ok (.dstore 4, 2) := by decide +kernel
theorem dX10_areNear_46 : decode cX10_areNear 46 = .ok (.aload_n 0, 1) := by decide +kernel
theorem dX10_areNear_47 : decode cX10_areNear 47 = .ok (.iload_n 2, 1) := by decide +kernel
theorem dX10_areNear_48 : decode cX10_areNear 48 = .ok (.iload_n 3, 1) := by decide +kernel
theorem dX10_areNear_49 : decode cX10_areNear 49 = .ok (.invokevirtual 88, 3) := by decide +kernel
theorem dX10_areNear_52 : decode cX10_areNear 52 = .ok (.dstore 6, 2) := by decide +kernel
theorem dX10_areNear_54 : decode cX10_areNear 54 = .ok (.dload 4, 2) := by decide +kernel
theorem dX10_areNear_56 : decode cX10_areNear 56 = .ok (.dload 6, 2) := by decide +kernel
theorem dX10_areNear_58 : decode cX10_areNear 58 = .ok (.dcmp .l, 1) := by decide +kernel
theorem dX10_areNear_59 : decode cX10_areNear 59 = .ok (.ifCond .le 11, 3) := by decide +kernel
theorem dX10_areNear_62 : decode cX10_areNear 62 = .ok (.dload 4, 2) := by decide +kernel
theorem dX10_areNear_64 : decode cX10_areNear 64 = .ok (.dload 6, 2) := by decide +kernel
theorem dX10_areNear_66 : decode cX10_areNear 66 = .ok (.dsub, 1) := by decide +kernel
theorem dX10_areNear_67 : decode cX10_areNear 67 = .ok (.goto 8, 3) := by decide +kernel
theorem dX10_areNear_70 : decode cX10_areNear 70 = .ok (.dload 6, 2) := by decide +kernel
theorem dX10_areNear_72 : decode cX10_areNear 72 = .ok (.dload 4, 2) := by decide +kernel
theorem dX10_areNear_74 : decode cX10_areNear 74 = .ok (.dsub, 1) := by decide +kernel
theorem dX10_areNear_75 : decode cX10_areNear 75 = .ok (.aload_n 0, 1) := by decide +kernel
theorem dX10_areNear_76 : decode cX10_areNear 76 = .ok (.getfield 30, 3) := by decide +kernel
theorem dX10_areNear_79 : decode cX10_areNear 79 = .ok (.iconst 0, 1) := by decide +kernel
theorem dX10_areNear_80 : decode cX10_areNear 80 = .ok (.iaload, 1) := by decide +kernel
theorem dX10_areNear_81 : decode cX10_areNear 81 = .ok (.i2d, 1) := by decide +kernel
theorem dX10_areNear_82 : decode cX10_areNear 82 = .ok (.dcmp .g, 1) := by decide +kernel
theorem dX10_areNear_83 : decode cX10_areNear 83 = .ok (.ifCond .gt 7, 3) := by decide +kernel
theorem dX10_areNear_86 : decode cX10_areNear 86 = .ok (.iconst 1, 1) := by decide +kernel
theorem dX10_areNear_87 : decode cX10_areNear 87 = .ok (.goto 4, 3) := by decide +kernel
theorem dX10_areNear_90 : decode cX10_areNear 90 = .ok (.iconst 0, 1) := by decide +kernel
theorem dX10_areNear_91 : decode cX10_areNear 91 = .ok (.ireturn, 1) := by decide +kernel
theorem dX10_areNear_92 : decode cX10_areNear 92 = .ok (.aload_n 0, 1) := by decide +kernel
theorem dX10_areNear_93 : decode cX10_areNear 93 = .ok (.getfield 13, 3) := by decide +kernel
theorem dX10_areNear_96 : decode cX10_areNear 96 = .ok (.iload_n 1, 1) := by decide +kernel
theorem dX10_areNear_97 : decode cX10_areNear 97 = .ok (.laload, 1) := by decide +kernel
theorem dX10_areNear_98 : decode cX10_areNear 98 = .ok (.aload_n 0, 1) := by decide +kernel
theorem dX10_areNear_99 : decode cX10_areNear 99 = .ok (.getfield 13, 3) := by decide +kernel
theorem dX10_areNear_102 : decode cX10_areNear 102 = .ok (.iload_n 2, 1) := by decide +kernel
theorem dX10_areNear_103 : decode cX10_areNear 103 = .ok (.laload, 1) := by decide +kernel
theorem dX10_areNear_104 : decode cX10_areNear 104 = .ok (.lcmp, 1) := by decide +kernel
theorem dX10_areNear_105 : decode cX10_areNear 105 = .ok (.ifCond .le 19, 3) := by decide +kernel
theorem dX10_areNear_108 : decode cX10_areNear 108 = .ok (.aload_n 0, 1) := by decide +kernel
theorem dX10_areNear_109 : decode cX10_areNear 109 = .ok (.getfield 13, 3) := by decide +kernel
theorem dX10_areNear_112 : decode cX10_areNear 112 = .ok (.iload_n 1, 1) := by decide +kernel
theorem dX10_areNear_113 : decode cX10_areNear 113 = .ok (.laload, 1) := by decide +kernel
theorem dX10_areNear_114 : decode cX10_areNear 114 = .ok (.aload_n 0, 1) := by decide +kernel
theorem dX10_areNear_115 : decode cX10_areNear 115 = .ok (.getfield 13, 3) := by decide +kernel
theorem dX10_areNear_118 : decode cX10_areNear 118 = .ok (.iload_n 2, 1) := by decide +kernel
theorem dX10_areNear_119 : decode cX10_areNear 119 = .ok (.laload, 1) := by decide +kernel
theorem dX10_areNear_120 : decode cX10_areNear 120 = .ok (.lsub, 1) := by decide +kernel
theorem dX10_areNear_121 : decode cX10_areNear 121 = .ok (.goto 16, 3) := by decide +kernel
theorem dX10_areNear_124 : decode cX10_areNear 124 = .ok (.aload_n 0, 1) := by decide +kernel
theorem dX10_areNear_125 : decode cX10_areNear 125 = .ok (.getfield 13, 3) := by decide +kernel
theorem dX10_areNear_128 : decode cX10_areNear 128 = .ok (.iload_n 2, 1) := by decide +kernel
theorem dX10_areNear_129 : decode cX10_areNear 129 = .ok (.laload, 1) := by decide +kernel
theorem dX10_areNear_130 : decode cX10_areNear 130 = .ok (.aload_n 0, 1) := by decide +kernel
theorem dX10_areNear_131 : decode cX10_areNear 131 = .ok (.getfield 13, 3) := by decide +kernel
theorem dX10_areNear_134 : decode cX10_areNear 134 = .ok (.iload_n 1, 1) := by decide +kernel
theorem dX10_areNear_135 : decode cX10_areNear 135 = .ok (.laload, 1) := by decide +kernel
theorem dX10_areNear_136 : decode cX10_areNear 136 = .ok (.lsub, 1) := by decide +kernel
theorem dX10_areNear_137 : decode cX10_areNear 137 = .ok (.lstore 4, 2) := by decide +kernel
theorem dX10_areNear_139 : decode cX10_areNear 139 = .ok (.lload 4, 2) := by decide +kernel
theorem dX10_areNear_141 : decode cX10_areNear 141 = .ok (.lconst 0, 1) := by decide +kernel
theorem dX10_areNear_142 : decode cX10_areNear 142 = .ok (.lcmp, 1) := by decide +kernel
theorem dX10_areNear_143 : decode cX10_areNear 143 = .ok (.ifCond .lt 20, 3) := by decide +kernel
theorem dX10_areNear_146 : decode cX10_areNear 146 = .ok (.lload 4, 2) := by decide +kernel
theorem dX10_areNear_148 : decode cX10_areNear 148 = .ok (.aload_n 0, 1) := by decide +kernel
theorem dX10_areNear_149 : decode cX10_areNear 149 = .ok (.getfield 30, 3) := by decide +kernel
theorem dX10_areNear_152 : decode cX10_areNear 152 = .ok (.iconst 0, 1) := by decide +kernel
theorem dX10_areNear_153 : decode cX10_areNear 153 = .ok (.iaload, 1) := by decide +kernel
theorem dX10_areNear_154 : decode cX10_areNear 154 = .ok (.i2l, 1) := by decide +kernel
theorem dX10_areNear_155 : decode cX10_areNear 155 = .ok (.lcmp, 1) := by decide +kernel
theorem dX10_areNear_156 : decode cX10_areNear 156 = .ok (.ifCond .gt 7, 3) := by decide +kernel
theorem dX10_areNear_159 : decode cX10_areNear 159 = .ok (.iconst 1, 1) := by decide +kernel
theorem dX10_areNear_160 : decode cX10_areNear 160 = .ok (.goto 4, 3) := by decide +kernel
theorem dX10_areNear_163 : decode cX10_areNear 163 = .ok (.iconst 0, 1) := by decide +kernel
theorem dX10_areNear_164 : decode cX10_areNear 164 = .ok (.ireturn, 1) := by decide +kernel
theorem dX10_likeness_0 : decode cX10_likeness 0 = .ok (.aload_n 0, 1) := by decide +kernel
theorem dX10_likeness_1 : decode cX10_likeness 1 = .ok (.iload_n 1, 1) := by decide +kernel
theorem dX10_likeness_2 : decode cX10_likeness 2 = .ok (.iload_n 2, 1) := by decide +kernel
theorem dX10_likeness_3 : decode cX10_likeness 3 = .ok (.invokevirtual 112, 3) := by decide +kernel
theorem dX10_likeness_6 : decode cX10_likeness 6 = .ok (.ifCond .eq 7, 3) := by decide +kernel
theorem dX10_likeness_9 : decode cX10_likeness 9 = .ok (.iconst 0, 1) := by decide +kernel
theorem dX10_likeness_10 : decode cX10_likeness 10 = .ok (.goto 17, 3) := by decide +kernel
theorem dX10_likeness_13 : decode cX10_likeness 13 = .ok (.aload_n 0, 1) := by decide +kernel
theorem dX10_likeness_14 : decode cX10_likeness 14 = .ok (.iload_n 1, 1) := by decide +kernel
theorem dX10_likeness_15 : decode cX10_likeness 15 = .ok (.iload_n 2, 1) := by decide +kernel
theorem dX10_likeness_16 : decode cX10_likeness 16 = .ok (.invokevirtual 115, 3) := by decide +kernel
theorem dX10_likeness_19 : decode cX10_likeness 19 = .ok (.ifCond .eq 7, 3) := by decide +kernel
theorem dX10_likeness_22 : decode cX10_likeness 22 = .ok (.iconst 1, 1) := by decide +kernel
theorem dX10_likeness_23 : decode cX10_likeness 23 = .ok (.goto 4, 3) := by decide +kernel
theorem dX10_likeness_26 : decode cX10_likeness 26 = .ok (.iconst 2, 1) := by decide +kernel
theorem dX10_likeness_27 : decode cX10_likeness 27 = .ok (.ireturn, 1) := by decide +kernel
theorem dX10_values_0 : decode cX10_values 0 = .ok (.iload_n 2, 1) := by decide +kernel
theorem dX10_values_1 : decode cX10_values 1 = .ok (.tableswitch 175 0 10 #[59, 73, 86, 101, 175, 175, 114, 130, 175, 146, 157], 59) := by decide +kernel
theorem dX10_values_60 : decode cX10_values 60 = .ok (.aload_n 0, 1) := by decide +kernel
theorem dX10_values_61 : decode cX10_values 61 = .ok (.iload_n 1, 1) := by decide +kernel
theorem dX10_values_62 : decode cX10_values 62 = .ok (.iload_n 2, 1) := by decide +kernel
theorem dX10_values_63 : decode cX10_values 63 = .ok (.iload_n 3, 1) := by decide +kernel
theorem dX10_values_64 : decode cX10_values 64 = .ok (.iconst 1, 1) := by decide +kernel
theorem dX10_values_65 : decode cX10_values 65 = .ok (.iand, 1) := by decide +kernel
theorem dX10_values_66 : decode cX10_values 66 = .ok (.i2l, 1) := by decide +kernel
theorem dX10_values_67 : decode cX10_values 67 = .ok (.dconst 0, 1) := by decide +kernel
theorem dX10_values_68 : decode cX10_values 68 = .ok (.invokevirtual 84, 3) := by decide +kernel
theorem dX10_values_71 : decode cX10_values 71 = .ok (.goto 114, 3) := by decide +kernel
theorem dX10_values_74 : decode cX10_values 74 = .ok (.aload_n 0, 1) := by decide +kernel
theorem dX10_values_75 : decode cX10_values 75 = .ok (.iload_n 1, 1) := by decide +kernel
theorem dX10_values_76 : decode cX10_values 76 = .ok (.iload_n 2, 1) := by decide +kernel
theorem dX10_values_77 : decode cX10_values 77 = .ok (.iload_n 3, 1) := by decide +kernel
theorem dX10_values_78 : decode cX10_values 78 = .ok (.i2b, 1) := by decide +kernel
theorem dX10_values_79 : decode cX10_values 79 = .ok (.i2l, 1) := by decide +kernel
theorem dX10_values_80 : decode cX10_values 80 = .ok (.dconst 0, 1) := by decide +kernel
theorem dX10_values_81 : decode cX10_values 81 = .ok (.invokevirtual 84, 3) := by decide +kernel
theorem dX10_values_84 : decode cX10_values 84 = .ok (.goto 101, 3) := by decide +kernel
theorem dX10_values_87 : decode cX10_values 87 = .ok (.aload_n 0, 1) := by decide +kernel
theorem dX10_values_88 : decode cX10_values 88 = .ok (.iload_n 1, 1) := by decide +kernel
theorem dX10_values_89 : decode cX10_values 89 = .ok (.iload_n 2, 1) := by decide +kernel
theorem dX10_values_90 : decode cX10_values 90 = .ok (.iload_n 3, 1) := by decide +kernel
theorem dX10_values_91 : decode cX10_values 91 = .ok (.ldc 118, 2) := by decide +kernel
theorem dX10_values_93 : decode cX10_values 93 = .ok (.iand, 1) := by decide +kernel
theorem dX10_values_94 : decode cX10_values 94 = .ok (.i2l, 1) := by decide +kernel
theorem dX10_values_95 : decode cX10_values 95 = .ok (.dconst 0, 1) := by decide +kernel
theorem dX10_values_96 : decode cX10_values 96 = .ok (.invokevirtual 84, 3) := by decide +kernel
theorem dX10_values_99 : decode cX10_values 99 = .ok (.goto 86, 3) := by decide +kernel
theorem dX10_values_102 : decode cX10_values 102 = .ok (.aload_n 0, 1) := by decide +kernel
theorem dX10_values_103 : decode cX10_values 103 = .ok (.iload_n 1, 1) := by decide +kernel
theorem dX10_values_104 : decode cX10_values 104 = .ok (.iload_n 2, 1) := by decide +kernel
theorem dX10_values_105 : decode cX10_values 105 = .ok (.iload_n 3, 1) := by decide +kernel
theorem dX10_values_106 : decode cX10_values 106 = .ok (.i2s, 1) := by decide +kernel
theorem dX10_values_107 : decode cX10_values 107 = .ok (.i2l, 1) := by decide +kernel
theorem dX10_values_108 : decode cX10_values 108 = .ok (.dconst 0, 1) := by decide +kernel
theorem dX10_values_109 : decode cX10_values 109 = .ok (.invokevirtual 84, 3) := by decide +kernel
theorem dX10_values_112 : decode cX10_values 112 = .ok (.goto 73, 3) := by decide +kernel
theorem dX10_values_115 : decode cX10_values 115 = .ok (.aload_n 0, 1) := by decide +kernel
theorem dX10_values_116 : decode cX10_values 116 = .ok (.iload_n 1, 1) := by decide +kernel
theorem dX10_values_117 : decode cX10_values 117 = .ok (.iload_n 2, 1) := by decide +kernel
theorem dX10_values_118 : decode cX10_values 118 = .ok (.lconst 0, 1) := by decide +kernel
theorem dX10_values_119 : decode cX10_values 119 = .ok (.iload_n 3, 1) := by decide +kernel
theorem dX10_values_120 : decode cX10_values 120 = .ok (.i2f, 1) := by decide +kernel
theorem dX10_values_121 : decode cX10_values 121 = .ok (.ldc 119, 2) := by decide +kernel
theorem dX10_values_123 : decode cX10_values 123 = .ok (.fmul, 1) := by decide +kernel
theorem dX10_values_124 : decode cX10_values 124 = .ok (.f2d, 1) := by decide +kernel
theorem dX10_values_125 : decode cX10_values 125 = .ok (.invokevirtual 84, 3) := by decide +kernel
theorem dX10_values_128 : decode cX10_values 128 = .ok (.goto 57, 3) := by decide +kernel
theorem dX10_values_131 : decode cX10_values 131 = .ok (.aload_n 0, 1) := by decide +kernel
theorem dX10_values_132 : decode cX10_values 132 = .ok (.iload_n 1, 1) := by decide +kernel
theorem dX10_values_133 : decode cX10_values 133 = .ok (.iload_n 2, 1) := by decide +kernel
theorem dX10_values_134 : decode cX10_values 134 = .ok (.lconst 0, 1) := by decide +kernel
theorem dX10_values_135 : decode cX10_values 135 = .ok (.iload_n 3, 1) := by decide +kernel
theorem dX10_values_136 : decode cX10_values 136 = .ok (.i2d, 1) := by decide +kernel
theorem dX10_values_137 : decode cX10_values 137 = .ok (.ldc2_w 120, 3) := by decide +kernel
theorem dX10_values_140 : decode cX10_values 140 = .ok (.dmul, 1) := by decide +kernel
theorem dX10_values_141 : decode cX10_values 141 = .ok (.invokevirtual 84, 3) := by decide +kernel
theorem dX10_values_144 : decode cX10_values 144 = .ok (.goto 41, 3) := by decide +kernel
theorem dX10_values_147 : decode cX10_values 147 = .ok (.aload_n 0, 1) := by decide +kernel
theorem dX10_values_148 : decode cX10_values 148 = .ok (.iload_n 1, 1) := by decide +kernel
theorem dX10_values_149 : decode cX10_values 149 = .ok (.iload_n 2, 1) := by decide +kernel
theorem dX10_values_150 : decode cX10_values 150 = .ok (.lconst 0, 1) := by decide +kernel
theorem dX10_values_151 : decode cX10_values 151 = .ok (.dconst 0, 1) := by decide +kernel
theorem dX10_values_152 : decode cX10_values 152 = .ok (.invokevirtual 84, 3) := by decide +kernel
theorem dX10_values_155 : decode cX10_values 155 = .ok (.goto 30, 3) := by decide +kernel
theorem dX10_values_158 : decode cX10_values 158 = .ok (.aload_n 0, 1) := by decide +kernel
theorem dX10_values_159 : decode cX10_values 159 = .ok (.iload_n 1, 1) := by decide +kernel
theorem dX10_values_160 : decode cX10_values 160 = .ok (.iload_n 2, 1) := by decide +kernel
theorem dX10_values_161 : decode cX10_values 161 = .ok (.iload_n 3, 1) := by decide +kernel
theorem dX10_values_162 : decode cX10_values 162 = .ok (.iconst 5, 1) := by decide +kernel
theorem dX10_values_163 : decode cX10_values 163 = .ok (.irem, 1) := by decide +kernel
theorem dX10_values_164 : decode cX10_values 164 = .ok (.iconst 5, 1) := by decide +kernel
theorem dX10_values_165 : decode cX10_values 165 = .ok (.iadd, 1) := by decide +kernel
theorem dX10_values_166 : decode cX10_values 166 = .ok (.iconst 5, 1) := by decide +kernel
theorem dX10_values_167 : decode cX10_values 167 = .ok (.irem, 1) := by decide +kernel
theorem dX10_values_168 : decode cX10_values 168 = .ok (.i2l, 1) := by decide +kernel
theorem dX10_values_169 : decode cX10_values 169 = .ok (.dconst 0, 1) := by decide +kernel
theorem dX10_values_170 : decode cX10_values 170 = .ok (.invokevirtual 84, 3) := by decide +kernel
theorem dX10_values_173 : decode cX10_values 173 = .ok (.goto 12, 3) := by decide +kernel
theorem dX10_values_176 : decode cX10_values 176 = .ok (.aload_n 0, 1) := by decide +kernel
theorem dX10_values_177 : decode cX10_values 177 = .ok (.iload_n 1, 1) := by decide +kernel
theorem dX10_values_178 : decode cX10_values 178 = .ok (.iload_n 2, 1) := by decide +kernel
theorem dX10_values_179 : decode cX10_values 179 = .ok (.iload_n 3, 1) := by decide +kernel
theorem dX10_values_180 : decode cX10_values 180 = .ok (.i2l, 1) := by decide +kernel
theorem dX10_values_181 : decode cX10_values 181 = .ok (.dconst 0, 1) := by decide +kernel
theorem dX10_values_182 : decode cX10_values 182 = .ok (.invokevirtual 84, 3) := by decide +kernel
theorem dX10_values_185 : decode cX10_values 185 = .ok (.return_, 1) := by decide +kernel
theorem dX10_isRecord_0 : decode cX10_isRecord 0 = .ok (.iload_n 0, 1) := by decide +kernel
theorem dX10_isRecord_1 : decode cX10_isRecord 1 = .ok (.i2l, 1) := by decide +kernel
theorem dX10_isRecord_2 : decode cX10_isRecord 2 = .ok (.lconst 0, 1) := by decide +kernel
theorem dX10_isRecord_3 : decode cX10_isRecord 3 = .ok (.ldc2_w 70, 3) := by decide +kernel
theorem dX10_isRecord_6 : decode cX10_isRecord 6 = .ok (.invokestatic 72, 3) := by decide +kernel
theorem dX10_isRecord_9 : decode cX10_isRecord 9 = .ok (.ireturn, 1) := by decide +kernel
theorem dX10_isKind_0 : decode cX10_isKind 0 = .ok (.iload_n 0, 1) := by decide +kernel
theorem dX10_isKind_1 : decode cX10_isKind 1 = .ok (.i2l, 1) := by decide +kernel
theorem dX10_isKind_2 : decode cX10_isKind 2 = .ok (.lconst 0, 1) := by decide +kernel
theorem dX10_isKind_3 : decode cX10_isKind 3 = .ok (.ldc2_w 70, 3) := by decide +kernel
theorem dX10_isKind_6 : decode cX10_isKind 6 = .ok (.invokestatic 72, 3) := by decide +kernel
theorem dX10_isKind_9 : decode cX10_isKind 9 = .ok (.ireturn, 1) := by decide +kernel
theorem dX10_isSort_0 : decode cX10_isSort 0 = .ok (.iload_n 0, 1) := by decide +kernel
theorem dX10_isSort_1 : decode cX10_isSort 1 = .ok (.i2l, 1) := by decide +kernel
theorem dX10_isSort_2 : decode cX10_isSort 2 = .ok (.lconst 0, 1) := by decide +kernel
theorem dX10_isSort_3 : decode cX10_isSort 3 = .ok (.ldc2_w 122, 3) := by decide +kernel
theorem dX10_isSort_6 : decode cX10_isSort 6 = .ok (.invokestatic 72, 3) := by decide +kernel
theorem dX10_isSort_9 : decode cX10_isSort 9 = .ok (.ireturn, 1) := by decide +kernel
theorem dX10_rowFault_0 : decode cX10_rowFault 0 = .ok (.aload_n 0, 1) := by decide +kernel
theorem dX10_rowFault_1 : decode cX10_rowFault 1 = .ok (.getfield 27, 3) := by decide +kernel
theorem dX10_rowFault_4 : decode cX10_rowFault 4 = .ok (.iload_n 1, 1) := by decide +kernel
theorem dX10_rowFault_5 : decode cX10_rowFault 5 = .ok (.iaload, 1) := by decide +kernel
theorem dX10_rowFault_6 : decode cX10_rowFault 6 = .ok (.iconst (-1), 1) := by decide +kernel
theorem dX10_rowFault_7 : decode cX10_rowFault 7 = .ok (.if_icmp .ne 7, 3) := by decide +kernel
theorem dX10_rowFault_10 : decode cX10_rowFault 10 = .ok (.iconst 1, 1) := by decide +kernel
theorem dX10_rowFault_11 : decode cX10_rowFault 11 = .ok (.goto 19, 3) := by decide +kernel
theorem dX10_rowFault_14 : decode cX10_rowFault 14 = .ok (.aload_n 0, 1) := by decide +kernel
theorem dX10_rowFault_15 : decode cX10_rowFault 15 = .ok (.getfield 27, 3) := by decide +kernel
theorem dX10_rowFault_18 : decode cX10_rowFault 18 = .ok (.iload_n 1, 1) := by decide +kernel
theorem dX10_rowFault_19 : decode cX10_rowFault 19 = .ok (.iaload, 1) := by decide +kernel
theorem dX10_rowFault_20 : decode cX10_rowFault 20 = .ok (.bipush (-2), 2) := by decide +kernel
theorem dX10_rowFault_22 : decode cX10_rowFault 22 = .ok (.if_icmp .ne 7, 3) := by decide +kernel
theorem dX10_rowFault_25 : decode cX10_rowFault 25 = .ok (.iconst 2, 1) := by decide +kernel
theorem dX10_rowFault_26 : decode cX10_rowFault 26 = .ok (.goto 4, 3) := by decide +kernel
theorem dX10_rowFault_29 : decode cX10_rowFault 29 = .ok (.iconst 0, 1) := by decide +kernel
theorem dX10_rowFault_30 : decode cX10_rowFault 30 = .ok (.ireturn, 1) := by decide +kernel
theorem dX10_cellFault_0 : decode cX10_cellFault 0 = .ok (.aload_n 0, 1) := by decide +kernel
theorem dX10_cellFault_1 : decode cX10_cellFault 1 = .ok (.iload_n 1, 1) := by decide +kernel
theorem dX10_cellFault_2 : decode cX10_cellFault 2 = .ok (.invokevirtual 124, 3) := by decide +kernel
theorem dX10_cellFault_5 : decode cX10_cellFault 5 = .ok (.istore 4, 2) := by decide +kernel
theorem dX10_cellFault_7 : decode cX10_cellFault 7 = .ok (.iload 4, 2) := by decide +kernel
theorem dX10_cellFault_9 : decode cX10_cellFault 9 = .ok (.ifCond .le 8, 3) := by decide +kernel
theorem dX10_cellFault_12 : decode cX10_cellFault 12 = .ok (.iload 4, 2) := by decide +kernel
theorem dX10_cellFault_14 : decode cX10_cellFault 14 = .ok (.goto 30, 3) := by decide +kernel
theorem dX10_cellFault_17 : decode cX10_cellFault 17 = .ok (.lload_n 2, 1) := by decide +kernel
theorem dX10_cellFault_18 : decode cX10_cellFault 18 = .ok (.lconst 0, 1) := by decide +kernel
theorem dX10_cellFault_19 : decode cX10_cellFault 19 = .ok (.aload_n 0, 1) := by decide +kernel
theorem dX10_cellFault_20 : decode cX10_cellFault 20 = .ok (.getfield 24, 3) := by decide +kernel
theorem dX10_cellFault_23 : decode cX10_cellFault 23 = .ok (.aload_n 0, 1) := by decide +kernel
theorem dX10_cellFault_24 : decode cX10_cellFault 24 = .ok (.getfield 27, 3) := by decide +kernel
theorem dX10_cellFault_27 : decode cX10_cellFault 27 = .ok (.iload_n 1, 1) := by decide +kernel
theorem dX10_cellFault_28 : decode cX10_cellFault 28 = .ok (.iaload, 1) := by decide +kernel
theorem dX10_cellFault_29 : decode cX10_cellFault 29 = .ok (.iaload, 1) := by decide +kernel
theorem dX10_cellFault_30 : decode cX10_cellFault 30 = .ok (.iconst 1, 1) := by decide +kernel
theorem dX10_cellFault_31 : decode cX10_cellFault 31 = .ok (.isub, 1) := by decide +kernel
theorem dX10_cellFault_32 : decode cX10_cellFault 32 = .ok (.i2l, 1) := by decide +kernel
theorem dX10_cellFault_33 : decode cX10_cellFault 33 = .ok (.invokestatic 72, 3) := by decide +kernel
theorem dX10_cellFault_36 : decode cX10_cellFault 36 = .ok (.ifCond .eq 7, 3) := by decide +kernel
theorem dX10_cellFault_39 : decode cX10_cellFault 39 = .ok (.iconst 0, 1) := by decide +kernel
theorem dX10_cellFault_40 : decode cX10_cellFault 40 = .ok (.goto 4, 3) := by decide +kernel
theorem dX10_cellFault_43 : decode cX10_cellFault 43 = .ok (.iconst 3, 1) := by decide +kernel
theorem dX10_cellFault_44 : decode cX10_cellFault 44 = .ok (.ireturn, 1) := by decide +kernel
theorem dX10_cellAt_0 : decode cX10_cellAt 0 = .ok (.bipush 20, 2) := by decide +kernel
theorem dX10_cellAt_2 : decode cX10_cellAt 2 = .ok (.aload_n 0, 1) := by decide +kernel
theorem dX10_cellAt_3 : decode cX10_cellAt 3 = .ok (.getfield 27, 3) := by decide +kernel
theorem dX10_cellAt_6 : decode cX10_cellAt 6 = .ok (.iload_n 1, 1) := by decide +kernel
theorem dX10_cellAt_7 : decode cX10_cellAt 7 = .ok (.iaload, 1) := by decide +kernel
theorem dX10_cellAt_8 : decode cX10_cellAt 8 = .ok (.imul, 1) := by decide +kernel
theorem dX10_cellAt_9 : decode cX10_cellAt 9 = .ok (.iload_n 2, 1) := by decide +kernel
theorem dX10_cellAt_10 : decode cX10_cellAt 10 = .ok (.iadd, 1) := by decide +kernel
theorem dX10_cellAt_11 : decode cX10_cellAt 11 = .ok (.ireturn, 1) := by decide +kernel
theorem dX10_kindOf_0 : decode cX10_kindOf 0 = .ok (.aload_n 0, 1) := by decide +kernel
theorem dX10_kindOf_1 : decode cX10_kindOf 1 = .ok (.getfield 21, 3) := by decide +kernel
theorem dX10_kindOf_4 : decode cX10_kindOf 4 = .ok (.aload_n 0, 1) := by decide +kernel
theorem dX10_kindOf_5 : decode cX10_kindOf 5 = .ok (.getfield 27, 3) := by decide +kernel
theorem dX10_kindOf_8 : decode cX10_kindOf 8 = .ok (.iload_n 1, 1) := by decide +kernel
theorem dX10_kindOf_9 : decode cX10_kindOf 9 = .ok (.iaload, 1) := by decide +kernel
theorem dX10_kindOf_10 : decode cX10_kindOf 10 = .ok (.iaload, 1) := by decide +kernel
theorem dX10_kindOf_11 : decode cX10_kindOf 11 = .ok (.ireturn, 1) := by decide +kernel
theorem dX10_sizeOf_0 : decode cX10_sizeOf 0 = .ok (.aload_n 0, 1) := by decide +kernel
theorem dX10_sizeOf_1 : decode cX10_sizeOf 1 = .ok (.getfield 24, 3) := by decide +kernel
theorem dX10_sizeOf_4 : decode cX10_sizeOf 4 = .ok (.aload_n 0, 1) := by decide +kernel
theorem dX10_sizeOf_5 : decode cX10_sizeOf 5 = .ok (.getfield 27, 3) := by decide +kernel
theorem dX10_sizeOf_8 : decode cX10_sizeOf 8 = .ok (.iload_n 1, 1) := by decide +kernel
theorem dX10_sizeOf_9 : decode cX10_sizeOf 9 = .ok (.iaload, 1) := by decide +kernel
theorem dX10_sizeOf_10 : decode cX10_sizeOf 10 = .ok (.iaload, 1) := by decide +kernel
theorem dX10_sizeOf_11 : decode cX10_sizeOf 11 = .ok (.ireturn, 1) := by decide +kernel
theorem dX10_isHeld_0 : decode cX10_isHeld 0 = .ok (.iconst 0, 1) := by decide +kernel
theorem dX10_isHeld_1 : decode cX10_isHeld 1 = .ok (.istore_n 2, 1) := by decide +kernel
theorem dX10_isHeld_2 : decode cX10_isHeld 2 = .ok (.iconst 0, 1) := by decide +kernel
theorem dX10_isHeld_3 : decode cX10_isHeld 3 = .ok (.istore_n 3, 1) := by decide +kernel
theorem dX10_isHeld_4 : decode cX10_isHeld 4 = .ok (.iload_n 3, 1) := by decide +kernel
theorem dX10_isHeld_5 : decode cX10_isHeld 5 = .ok (.bipush 8, 2) := by decide +kernel
theorem dX10_isHeld_7 : decode cX10_isHeld 7 = .ok (.if_icmp .ge 29, 3) := by decide +kernel
theorem dX10_isHeld_10 : decode cX10_isHeld 10 = .ok (.iload_n 2, 1) := by decide +kernel
theorem dX10_isHeld_11 : decode cX10_isHeld 11 = .ok (.ifCond .ne 13, 3) := by decide +kernel
theorem dX10_isHeld_14 : decode cX10_isHeld 14 = .ok (.aload_n 0, 1) := by decide +kernel
theorem dX10_isHeld_15 : decode cX10_isHeld 15 = .ok (.getfield 27, 3) := by decide +kernel
theorem dX10_isHeld_18 : decode cX10_isHeld 18 = .ok (.iload_n 3, 1) := by decide +kernel
theorem dX10_isHeld_19 : decode cX10_isHeld 19 = .ok (.iaload, 1) := by decide +kernel
theorem dX10_isHeld_20 : decode cX10_isHeld 20 = .ok (.iload_n 1, 1) := by decide +kernel
theorem dX10_isHeld_21 : decode cX10_isHeld 21 = .ok (.if_icmp .ne 7, 3) := by decide +kernel
theorem dX10_isHeld_24 : decode cX10_isHeld 24 = .ok (.iconst 1, 1) := by decide +kernel
theorem dX10_isHeld_25 : decode cX10_isHeld 25 = .ok (.goto 4, 3) := by decide +kernel
theorem dX10_isHeld_28 : decode cX10_isHeld 28 = .ok (.iconst 0, 1) := by decide +kernel
theorem dX10_isHeld_29 : decode cX10_isHeld 29 = .ok (.istore_n 2, 1) := by decide +kernel
theorem dX10_isHeld_30 : decode cX10_isHeld 30 = .ok (.iinc 3 1, 3) := by decide +kernel
theorem dX10_isHeld_33 : decode cX10_isHeld 33 = .ok (.goto (-29), 3) := by decide +kernel
theorem dX10_isHeld_36 : decode cX10_isHeld 36 = .ok (.iload_n 2, 1) := by decide +kernel
theorem dX10_isHeld_37 : decode cX10_isHeld 37 = .ok (.ireturn, 1) := by decide +kernel
theorem dX10_takesRow_0 : decode cX10_takesRow 0 = .ok (.aload_n 0, 1) := by decide +kernel
theorem dX10_takesRow_1 : decode cX10_takesRow 1 = .ok (.getfield 27, 3) := by decide +kernel
theorem dX10_takesRow_4 : decode cX10_takesRow 4 = .ok (.iload_n 1, 1) := by decide +kernel
theorem dX10_takesRow_5 : decode cX10_takesRow 5 = .ok (.iconst (-1), 1) := by decide +kernel
theorem dX10_takesRow_6 : decode cX10_takesRow 6 = .ok (.iastore, 1) := by decide +kernel
theorem dX10_takesRow_7 : decode cX10_takesRow 7 = .ok (.iconst 0, 1) := by decide +kernel
theorem dX10_takesRow_8 : decode cX10_takesRow 8 = .ok (.istore 4, 2) := by decide +kernel
theorem dX10_takesRow_10 : decode cX10_takesRow 10 = .ok (.aload_n 0, 1) := by decide +kernel
theorem dX10_takesRow_11 : decode cX10_takesRow 11 = .ok (.iload 4, 2) := by decide +kernel
theorem dX10_takesRow_13 : decode cX10_takesRow 13 = .ok (.invokevirtual 128, 3) := by decide +kernel
theorem dX10_takesRow_16 : decode cX10_takesRow 16 = .ok (.ifCond .eq 9, 3) := by decide +kernel
theorem dX10_takesRow_19 : decode cX10_takesRow 19 = .ok (.iinc 4 1, 3) := by decide +kernel
theorem dX10_takesRow_22 : decode cX10_takesRow 22 = .ok (.goto (-12), 3) := by decide +kernel
theorem dX10_takesRow_25 : decode cX10_takesRow 25 = .ok (.aload_n 0, 1) := by decide +kernel
theorem dX10_takesRow_26 : decode cX10_takesRow 26 = .ok (.getfield 27, 3) := by decide +kernel
theorem dX10_takesRow_29 : decode cX10_takesRow 29 = .ok (.iload_n 1, 1) := by decide +kernel
theorem dX10_takesRow_30 : decode cX10_takesRow 30 = .ok (.iload 4, 2) := by decide +kernel
theorem dX10_takesRow_32 : decode cX10_takesRow 32 = .ok (.iastore, 1) := by decide +kernel
theorem dX10_takesRow_33 : decode cX10_takesRow 33 = .ok (.aload_n 0, 1) := by decide +kernel
theorem dX10_takesRow_34 : decode cX10_takesRow 34 = .ok (.getfield 21, 3) := by decide +kernel
theorem dX10_takesRow_37 : decode cX10_takesRow 37 = .ok (.iload 4, 2) := by decide +kernel
theorem dX10_takesRow_39 : decode cX10_takesRow 39 = .ok (.iload_n 2, 1) := by decide +kernel
theorem dX10_takesRow_40 : decode cX10_takesRow 40 = .ok (.iastore, 1) := by decide +kernel
theorem dX10_takesRow_41 : decode cX10_takesRow 41 = .ok (.aload_n 0, 1) := by decide +kernel
theorem dX10_takesRow_42 : decode cX10_takesRow 42 = .ok (.getfield 24, 3) := by decide +kernel
theorem dX10_takesRow_45 : decode cX10_takesRow 45 = .ok (.iload 4, 2) := by decide +kernel
theorem dX10_takesRow_47 : decode cX10_takesRow 47 = .ok (.iload_n 3, 1) := by decide +kernel
theorem dX10_takesRow_48 : decode cX10_takesRow 48 = .ok (.iastore, 1) := by decide +kernel
theorem dX10_takesRow_49 : decode cX10_takesRow 49 = .ok (.return_, 1) := by decide +kernel
theorem dX10_takesMade_0 : decode cX10_takesMade 0 = .ok (.aload_n 0, 1) := by decide +kernel
theorem dX10_takesMade_1 : decode cX10_takesMade 1 = .ok (.iload_n 1, 1) := by decide +kernel
theorem dX10_takesMade_2 : decode cX10_takesMade 2 = .ok (.iload_n 2, 1) := by decide +kernel
theorem dX10_takesMade_3 : decode cX10_takesMade 3 = .ok (.iload_n 3, 1) := by decide +kernel
theorem dX10_takesMade_4 : decode cX10_takesMade 4 = .ok (.invokevirtual 131, 3) := by decide +kernel
theorem dX10_takesMade_7 : decode cX10_takesMade 7 = .ok (.iconst 0, 1) := by decide +kernel
theorem dX10_takesMade_8 : decode cX10_takesMade 8 = .ok (.istore 4, 2) := by decide +kernel
theorem dX10_takesMade_10 : decode cX10_takesMade 10 = .ok (.iload 4, 2) := by decide +kernel
theorem dX10_takesMade_12 : decode cX10_takesMade 12 = .ok (.iload_n 3, 1) := by decide +kernel
theorem dX10_takesMade_13 : decode cX10_takesMade 13 = .ok (.if_icmp .ge 27, 3) := by decide +kernel
theorem dX10_takesMade_16 : decode cX10_takesMade 16 = .ok (.aload_n 0, 1) := by decide +kernel
theorem dX10_takesMade_17 : decode cX10_takesMade 17 = .ok (.sipush 520, 3) := by decide +kernel
theorem dX10_takesMade_20 : decode cX10_takesMade 20 = .ok (.iload 4, 2) := by decide +kernel
theorem dX10_takesMade_22 : decode cX10_takesMade 22 = .ok (.iadd, 1) := by decide +kernel
theorem dX10_takesMade_23 : decode cX10_takesMade 23 = .ok (.iload_n 2, 1) := by decide +kernel
theorem dX10_takesMade_24 : decode cX10_takesMade 24 = .ok (.aload_n 0, 1) := by decide +kernel
theorem dX10_takesMade_25 : decode cX10_takesMade 25 = .ok (.iload_n 1, 1) := by decide +kernel
theorem dX10_takesMade_26 : decode cX10_takesMade 26 = .ok (.iload 4, 2) := by decide +kernel
theorem dX10_takesMade_28 : decode cX10_takesMade 28 = .ok (.invokevirtual 135, 3) := by decide +kernel
theorem dX10_takesMade_31 : decode cX10_takesMade 31 = .ok (.invokevirtual 138, 3) := by decide +kernel
theorem dX10_takesMade_34 : decode cX10_takesMade 34 = .ok (.iinc 4 1, 3) := by decide +kernel
theorem dX10_takesMade_37 : decode cX10_takesMade 37 = .ok (.goto (-27), 3) := by decide +kernel
theorem dX10_takesMade_40 : decode cX10_takesMade 40 = .ok (.return_, 1) := by decide +kernel
theorem dX10_record_0 : decode cX10_record 0 = .ok (.iload_n 1, 1) := by decide +kernel
theorem dX10_record_1 : decode cX10_record 1 = .ok (.invokestatic 141, 3) := by decide +kernel
theorem dX10_record_4 : decode cX10_record 4 = .ok (.ifCond .eq 27, 3) := by decide +kernel
theorem dX10_record_7 : decode cX10_record 7 = .ok (.iload_n 2, 1) := by decide +kernel
theorem dX10_record_8 : decode cX10_record 8 = .ok (.i2l, 1) := by decide +kernel
theorem dX10_record_9 : decode cX10_record 9 = .ok (.lconst 0, 1) := by decide +kernel
theorem dX10_record_10 : decode cX10_record 10 = .ok (.ldc2_w 144, 3) := by decide +kernel
theorem dX10_record_13 : decode cX10_record 13 = .ok (.invokestatic 72, 3) := by decide +kernel
theorem dX10_record_16 : decode cX10_record 16 = .ok (.ifCond .eq 15, 3) := by decide +kernel
theorem dX10_record_19 : decode cX10_record 19 = .ok (.iload_n 2, 1) := by decide +kernel
theorem dX10_record_20 : decode cX10_record 20 = .ok (.bipush 10, 2) := by decide +kernel
theorem dX10_record_22 : decode cX10_record 22 = .ok (.if_icmp .gt 11, 3) := by decide +kernel
theorem dX10_record_25 : decode cX10_record 25 = .ok (.iload_n 3, 1) := by decide +kernel
theorem dX10_record_26 : decode cX10_record 26 = .ok (.bipush 20, 2) := by decide +kernel
theorem dX10_record_28 : decode cX10_record 28 = .ok (.if_icmp .le 5, 3) := by decide +kernel
theorem dX10_record_31 : decode cX10_record 31 = .ok (.iconst (-1), 1) := by decide +kernel
theorem dX10_record_32 : decode cX10_record 32 = .ok (.ireturn, 1) := by decide +kernel
theorem dX10_record_33 : decode cX10_record 33 = .ok (.iload_n 2, 1) := by decide +kernel
theorem dX10_record_34 : decode cX10_record 34 = .ok (.bipush 10, 2) := by decide +kernel
theorem dX10_record_36 : decode cX10_record 36 = .ok (.if_icmp .le 23, 3) := by decide +kernel
theorem dX10_record_39 : decode cX10_record 39 = .ok (.aload_n 0, 1) := by decide +kernel
theorem dX10_record_40 : decode cX10_record 40 = .ok (.getfield 27, 3) := by decide +kernel
theorem dX10_record_43 : decode cX10_record 43 = .ok (.iload_n 1, 1) := by decide +kernel
theorem dX10_record_44 : decode cX10_record 44 = .ok (.iload_n 2, 1) := by decide +kernel
theorem dX10_record_45 : decode cX10_record 45 = .ok (.bipush 11, 2) := by decide +kernel
theorem dX10_record_47 : decode cX10_record 47 = .ok (.if_icmp .ne 8, 3) := by decide +kernel
theorem dX10_record_50 : decode cX10_record 50 = .ok (.bipush (-2), 2) := by decide +kernel
theorem dX10_record_52 : decode cX10_record 52 = .ok (.goto 4, 3) := by decide +kernel
theorem dX10_record_55 : decode cX10_record 55 = .ok (.iconst (-1), 1) := by decide +kernel
theorem dX10_record_56 : decode cX10_record 56 = .ok (.iastore, 1) := by decide +kernel
theorem dX10_record_57 : decode cX10_record 57 = .ok (.iconst 1, 1) := by decide +kernel
theorem dX10_record_58 : decode cX10_record 58 = .ok (.ireturn, 1) := by decide +kernel
theorem dX10_record_59 : decode cX10_record 59 = .ok (.iload_n 3, 1) := by decide +kernel
theorem dX10_record_60 : decode cX10_record 60 = .ok (.ifCond .ge 6, 3) := by decide +kernel
theorem dX10_record_63 : decode cX10_record 63 = .ok (.bipush (-16), 2) := by decide +kernel
theorem dX10_record_65 : decode cX10_record 65 = .ok (.ireturn, 1) := by decide +kernel
theorem dX10_record_66 : decode cX10_record 66 = .ok (.aload_n 0, 1) := by decide +kernel
theorem dX10_record_67 : decode cX10_record 67 = .ok (.iload_n 1, 1) := by decide +kernel
theorem dX10_record_68 : decode cX10_record 68 = .ok (.iload_n 2, 1) := by decide +kernel
theorem dX10_record_69 : decode cX10_record 69 = .ok (.iload_n 3, 1) := by decide +kernel
theorem dX10_record_70 : decode cX10_record 70 = .ok (.invokevirtual 131, 3) := by decide +kernel
theorem dX10_record_73 : decode cX10_record 73 = .ok (.iconst 0, 1) := by decide +kernel
theorem dX10_record_74 : decode cX10_record 74 = .ok (.istore 4, 2) := by decide +kernel
theorem dX10_record_76 : decode cX10_record 76 = .ok (.iload 4, 2) := by decide +kernel
theorem dX10_record_78 : decode cX10_record 78 = .ok (.iload_n 3, 1) := by decide +kernel
theorem dX10_record_79 : decode cX10_record 79 = .ok (.if_icmp .ge 34, 3) := by decide +kernel
theorem dX10_record_82 : decode cX10_record 82 = .ok (.aload_n 0, 1) := by decide +kernel
theorem dX10_record_83 : decode cX10_record 83 = .ok (.aload_n 0, 1) := by decide +kernel
theorem dX10_record_84 : decode cX10_record 84 = .ok (.iload_n 1, 1) := by decide +kernel
theorem dX10_record_85 : decode cX10_record 85 = .ok (.iload 4, 2) := by decide +kernel
theorem dX10_record_87 : decode cX10_record 87 = .ok (.invokevirtual 135, 3) := by decide +kernel
theorem dX10_record_90 : decode cX10_record 90 = .ok (.iload_n 2, 1) := by decide +kernel
theorem dX10_record_91 : decode cX10_record 91 = .ok (.bipush 7, 2) := by decide +kernel
theorem dX10_record_93 : decode cX10_record 93 = .ok (.if_icmp .le 8, 3) := by decide +kernel
theorem dX10_record_96 : decode cX10_record 96 = .ok (.bipush 9, 2) := by decide +kernel
theorem dX10_record_98 : decode cX10_record 98 = .ok (.goto 4, 3) := by decide +kernel
theorem dX10_record_101 : decode cX10_record 101 = .ok (.iload_n 2, 1) := by decide +kernel
theorem dX10_record_102 : decode cX10_record 102 = .ok (.lconst 0, 1) := by decide +kernel
theorem dX10_record_103 : decode cX10_record 103 = .ok (.dconst 0, 1) := by decide +kernel
theorem dX10_record_104 : decode cX10_record 104 = .ok (.invokevirtual 84, 3) := by decide +kernel
theorem dX10_record_107 : decode cX10_record 107 = .ok (.iinc 4 1, 3) := by decide +kernel
theorem dX10_record_110 : decode cX10_record 110 = .ok (.goto (-34), 3) := by decide +kernel
theorem dX10_record_113 : decode cX10_record 113 = .ok (.iconst 1, 1) := by decide +kernel
theorem dX10_record_114 : decode cX10_record 114 = .ok (.ireturn, 1) := by decide +kernel
theorem dX10_share_0 : decode cX10_share 0 = .ok (.iload_n 1, 1) := by decide +kernel
theorem dX10_share_1 : decode cX10_share 1 = .ok (.invokestatic 141, 3) := by decide +kernel
theorem dX10_share_4 : decode cX10_share 4 = .ok (.ifCond .eq 10, 3) := by decide +kernel
theorem dX10_share_7 : decode cX10_share 7 = .ok (.iload_n 2, 1) := by decide +kernel
theorem dX10_share_8 : decode cX10_share 8 = .ok (.invokestatic 141, 3) := by decide +kernel
theorem dX10_share_11 : decode cX10_share 11 = .ok (.ifCond .ne 5, 3) := by decide +kernel
theorem dX10_share_14 : decode cX10_share 14 = .ok (.iconst (-1), 1) := by decide +kernel
theorem dX10_share_15 : decode cX10_share 15 = .ok (.ireturn, 1) := by decide +kernel
theorem dX10_share_16 : decode cX10_share 16 = .ok (.aload_n 0, 1) := by decide +kernel
theorem dX10_share_17 : decode cX10_share 17 = .ok (.getfield 27, 3) := by decide +kernel
theorem dX10_share_20 : decode cX10_share 20 = .ok (.iload_n 1, 1) := by decide +kernel
theorem dX10_share_21 : decode cX10_share 21 = .ok (.aload_n 0, 1) := by decide +kernel
theorem dX10_share_22 : decode cX10_share 22 = .ok (.getfield 27, 3) := by decide +kernel
theorem dX10_share_25 : decode cX10_share 25 = .ok (.iload_n 2, 1) := by decide +kernel
theorem dX10_share_26 : decode cX10_share 26 = .ok (.iaload, 1) := by decide +kernel
theorem dX10_share_27 : decode cX10_share 27 = .ok (.iastore, 1) := by decide +kernel
theorem dX10_share_28 : decode cX10_share 28 = .ok (.iconst 1, 1) := by decide +kernel
theorem dX10_share_29 : decode cX10_share 29 = .ok (.ireturn, 1) := by decide +kernel
theorem dX10_firstOf_0 : decode cX10_firstOf 0 = .ok (.iconst 0, 1) := by decide +kernel
theorem dX10_firstOf_1 : decode cX10_firstOf 1 = .ok (.istore_n 2, 1) := by decide +kernel
theorem dX10_firstOf_2 : decode cX10_firstOf 2 = .ok (.aload_n 0, 1) := by decide +kernel
theorem dX10_firstOf_3 : decode cX10_firstOf 3 = .ok (.getfield 27, 3) := by decide +kernel
theorem dX10_firstOf_6 : decode cX10_firstOf 6 = .ok (.iload_n 2, 1) := by decide +kernel
theorem dX10_firstOf_7 : decode cX10_firstOf 7 = .ok (.iaload, 1) := by decide +kernel
theorem dX10_firstOf_8 : decode cX10_firstOf 8 = .ok (.iload_n 1, 1) := by decide +kernel
theorem dX10_firstOf_9 : decode cX10_firstOf 9 = .ok (.if_icmp .eq 9, 3) := by decide +kernel
theorem dX10_firstOf_12 : decode cX10_firstOf 12 = .ok (.iinc 2 1, 3) := by decide +kernel
theorem dX10_firstOf_15 : decode cX10_firstOf 15 = .ok (.goto (-13), 3) := by decide +kernel
theorem dX10_firstOf_18 : decode cX10_firstOf 18 = .ok (.iload_n 2, 1) := by decide +kernel
theorem dX10_firstOf_19 : decode cX10_firstOf 19 = .ok (.ireturn, 1) := by decide +kernel
theorem dX10_kind_0 : decode cX10_kind 0 = .ok (.iload_n 1, 1) := by decide +kernel
theorem dX10_kind_1 : decode cX10_kind 1 = .ok (.invokestatic 141, 3) := by decide +kernel
theorem dX10_kind_4 : decode cX10_kind 4 = .ok (.ifCond .eq 13, 3) := by decide +kernel
theorem dX10_kind_7 : decode cX10_kind 7 = .ok (.iload_n 2, 1) := by decide +kernel
theorem dX10_kind_8 : decode cX10_kind 8 = .ok (.i2l, 1) := by decide +kernel
theorem dX10_kind_9 : decode cX10_kind 9 = .ok (.lconst 0, 1) := by decide +kernel
theorem dX10_kind_10 : decode cX10_kind 10 = .ok (.lconst 1, 1) := by decide +kernel
theorem dX10_kind_11 : decode cX10_kind 11 = .ok (.invokestatic 72, 3) := by decide +kernel
theorem dX10_kind_14 : decode cX10_kind 14 = .ok (.ifCond .ne 5, 3) := by decide +kernel
theorem dX10_kind_17 : decode cX10_kind 17 = .ok (.iconst (-1), 1) := by decide +kernel
theorem dX10_kind_18 : decode cX10_kind 18 = .ok (.ireturn, 1) := by decide +kernel
theorem dX10_kind_19 : decode cX10_kind 19 = .ok (.aload_n 0, 1) := by decide +kernel
theorem dX10_kind_20 : decode cX10_kind 20 = .ok (.getfield 27, 3) := by decide +kernel
theorem dX10_kind_23 : decode cX10_kind 23 = .ok (.iload_n 1, 1) := by decide +kernel
theorem dX10_kind_24 : decode cX10_kind 24 = .ok (.iaload, 1) := by decide +kernel
theorem dX10_kind_25 : decode cX10_kind 25 = .ok (.ifCond .ge 32, 3) := by decide +kernel
theorem dX10_kind_28 : decode cX10_kind 28 = .ok (.iload_n 2, 1) := by decide +kernel
theorem dX10_kind_29 : decode cX10_kind 29 = .ok (.iconst 1, 1) := by decide +kernel
theorem dX10_kind_30 : decode cX10_kind 30 = .ok (.if_icmp .ne 8, 3) := by decide +kernel
theorem dX10_kind_33 : decode cX10_kind 33 = .ok (.bipush (-4), 2) := by decide +kernel
theorem dX10_kind_35 : decode cX10_kind 35 = .ok (.goto 21, 3) := by decide +kernel
theorem dX10_kind_38 : decode cX10_kind 38 = .ok (.aload_n 0, 1) := by decide +kernel
theorem dX10_kind_39 : decode cX10_kind 39 = .ok (.getfield 27, 3) := by decide +kernel
theorem dX10_kind_42 : decode cX10_kind 42 = .ok (.iload_n 1, 1) := by decide +kernel
theorem dX10_kind_43 : decode cX10_kind 43 = .ok (.iaload, 1) := by decide +kernel
theorem dX10_kind_44 : decode cX10_kind 44 = .ok (.bipush (-2), 2) := by decide +kernel
theorem dX10_kind_46 : decode cX10_kind 46 = .ok (.if_icmp .ne 8, 3) := by decide +kernel
theorem dX10_kind_49 : decode cX10_kind 49 = .ok (.bipush 11, 2) := by decide +kernel
theorem dX10_kind_51 : decode cX10_kind 51 = .ok (.goto 5, 3) := by decide +kernel
theorem dX10_kind_54 : decode cX10_kind 54 = .ok (.bipush 12, 2) := by decide +kernel
theorem dX10_kind_56 : decode cX10_kind 56 = .ok (.ireturn, 1) := by decide +kernel
theorem dX10_kind_57 : decode cX10_kind 57 = .ok (.iload_n 2, 1) := by decide +kernel
theorem dX10_kind_58 : decode cX10_kind 58 = .ok (.ifCond .ne 11, 3) := by decide +kernel
theorem dX10_kind_61 : decode cX10_kind 61 = .ok (.aload_n 0, 1) := by decide +kernel
theorem dX10_kind_62 : decode cX10_kind 62 = .ok (.iload_n 1, 1) := by decide +kernel
theorem dX10_kind_63 : decode cX10_kind 63 = .ok (.invokevirtual 146, 3) := by decide +kernel
theorem dX10_kind_66 : decode cX10_kind 66 = .ok (.goto 13, 3) := by decide +kernel
theorem dX10_kind_69 : decode cX10_kind 69 = .ok (.aload_n 0, 1) := by decide +kernel
theorem dX10_kind_70 : decode cX10_kind 70 = .ok (.aload_n 0, 1) := by decide +kernel
theorem dX10_kind_71 : decode cX10_kind 71 = .ok (.getfield 27, 3) := by decide +kernel
theorem dX10_kind_74 : decode cX10_kind 74 = .ok (.iload_n 1, 1) := by decide +kernel
theorem dX10_kind_75 : decode cX10_kind 75 = .ok (.iaload, 1) := by decide +kernel
theorem dX10_kind_76 : decode cX10_kind 76 = .ok (.invokevirtual 149, 3) := by decide +kernel
theorem dX10_kind_79 : decode cX10_kind 79 = .ok (.ireturn, 1) := by decide +kernel
theorem dX10_size_0 : decode cX10_size 0 = .ok (.iload_n 1, 1) := by decide +kernel
theorem dX10_size_1 : decode cX10_size 1 = .ok (.invokestatic 141, 3) := by decide +kernel
theorem dX10_size_4 : decode cX10_size 4 = .ok (.ifCond .ne 5, 3) := by decide +kernel
theorem dX10_size_7 : decode cX10_size 7 = .ok (.iconst (-1), 1) := by decide +kernel
theorem dX10_size_8 : decode cX10_size 8 = .ok (.ireturn, 1) := by decide +kernel
theorem dX10_size_9 : decode cX10_size 9 = .ok (.aload_n 0, 1) := by decide +kernel
theorem dX10_size_10 : decode cX10_size 10 = .ok (.iload_n 1, 1) := by decide +kernel
theorem dX10_size_11 : decode cX10_size 11 = .ok (.invokevirtual 124, 3) := by decide +kernel
theorem dX10_size_14 : decode cX10_size 14 = .ok (.ifCond .le 14, 3) := by decide +kernel
theorem dX10_size_17 : decode cX10_size 17 = .ok (.bipush (-10), 2) := by decide +kernel
theorem dX10_size_19 : decode cX10_size 19 = .ok (.aload_n 0, 1) := by decide +kernel
theorem dX10_size_20 : decode cX10_size 20 = .ok (.iload_n 1, 1) := by decide +kernel
theorem dX10_size_21 : decode cX10_size 21 = .ok (.invokevirtual 124, 3) := by decide +kernel
theorem dX10_size_24 : decode cX10_size 24 = .ok (.isub, 1) := by decide +kernel
theorem dX10_size_25 : decode cX10_size 25 = .ok (.goto 8, 3) := by decide +kernel
theorem dX10_size_28 : decode cX10_size 28 = .ok (.aload_n 0, 1) := by decide +kernel
theorem dX10_size_29 : decode cX10_size 29 = .ok (.iload_n 1, 1) := by decide +kernel
theorem dX10_size_30 : decode cX10_size 30 = .ok (.invokevirtual 152, 3) := by decide +kernel
theorem dX10_size_33 : decode cX10_size 33 = .ok (.ireturn, 1) := by decide +kernel
theorem dX10_askFault_0 : decode cX10_askFault 0 = .ok (.aload_n 0, 1) := by decide +kernel
theorem dX10_askFault_1 : decode cX10_askFault 1 = .ok (.iload_n 1, 1) := by decide +kernel
theorem dX10_askFault_2 : decode cX10_askFault 2 = .ok (.lload_n 2, 1) := by decide +kernel
theorem dX10_askFault_3 : decode cX10_askFault 3 = .ok (.invokevirtual 155, 3) := by decide +kernel
theorem dX10_askFault_6 : decode cX10_askFault 6 = .ok (.istore 5, 2) := by decide +kernel
theorem dX10_askFault_8 : decode cX10_askFault 8 = .ok (.iload 5, 2) := by decide +kernel
theorem dX10_askFault_10 : decode cX10_askFault 10 = .ok (.ifCond .le 6, 3) := by decide +kernel
theorem dX10_askFault_13 : decode cX10_askFault 13 = .ok (.iload 5, 2) := by decide +kernel
theorem dX10_askFault_15 : decode cX10_askFault 15 = .ok (.ireturn, 1) := by decide +kernel
theorem dX10_askFault_16 : decode cX10_askFault 16 = .ok (.aload_n 0, 1) := by decide +kernel
theorem dX10_askFault_17 : decode cX10_askFault 17 = .ok (.iload_n 1, 1) := by decide +kernel
theorem dX10_askFault_18 : decode cX10_askFault 18 = .ok (.invokevirtual 146, 3) := by decide +kernel
theorem dX10_askFault_21 : decode cX10_askFault 21 = .ok (.bipush 7, 2) := by decide +kernel
theorem dX10_askFault_23 : decode cX10_askFault 23 = .ok (.if_icmp .le 7, 3) := by decide +kernel
theorem dX10_askFault_26 : decode cX10_askFault 26 = .ok (.iconst 4, 1) := by decide +kernel
theorem dX10_askFault_27 : decode cX10_askFault 27 = .ok (.goto 21, 3) := by decide +kernel
theorem dX10_askFault_30 : decode cX10_askFault 30 = .ok (.aload_n 0, 1) := by decide +kernel
theorem dX10_askFault_31 : decode cX10_askFault 31 = .ok (.iload_n 1, 1) := by decide +kernel
theorem dX10_askFault_32 : decode cX10_askFault 32 = .ok (.invokevirtual 146, 3) := by decide +kernel
theorem dX10_askFault_35 : decode cX10_askFault 35 = .ok (.iload 4, 2) := by decide +kernel
theorem dX10_askFault_37 : decode cX10_askFault 37 = .ok (.invokestatic 80, 3) := by decide +kernel
theorem dX10_askFault_40 : decode cX10_askFault 40 = .ok (.ifCond .eq 7, 3) := by decide +kernel
theorem dX10_askFault_43 : decode cX10_askFault 43 = .ok (.iconst 0, 1) := by decide +kernel
theorem dX10_askFault_44 : decode cX10_askFault 44 = .ok (.goto 4, 3) := by decide +kernel
theorem dX10_askFault_47 : decode cX10_askFault 47 = .ok (.iconst 5, 1) := by decide +kernel
theorem dX10_askFault_48 : decode cX10_askFault 48 = .ok (.ireturn, 1) := by decide +kernel
theorem dX10_ask_0 : decode cX10_ask 0 = .ok (.iload_n 1, 1) := by decide +kernel
theorem dX10_ask_1 : decode cX10_ask 1 = .ok (.invokestatic 141, 3) := by decide +kernel
theorem dX10_ask_4 : decode cX10_ask 4 = .ok (.ifCond .eq 10, 3) := by decide +kernel
theorem dX10_ask_7 : decode cX10_ask 7 = .ok (.iload_n 3, 1) := by decide +kernel
theorem dX10_ask_8 : decode cX10_ask 8 = .ok (.invokestatic 159, 3) := by decide +kernel
theorem dX10_ask_11 : decode cX10_ask 11 = .ok (.ifCond .ne 5, 3) := by decide +kernel
theorem dX10_ask_14 : decode cX10_ask 14 = .ok (.iconst (-1), 1) := by decide +kernel
theorem dX10_ask_15 : decode cX10_ask 15 = .ok (.ireturn, 1) := by decide +kernel
theorem dX10_ask_16 : decode cX10_ask 16 = .ok (.aload_n 0, 1) := by decide +kernel
theorem dX10_ask_17 : decode cX10_ask 17 = .ok (.iload_n 1, 1) := by decide +kernel
theorem dX10_ask_18 : decode cX10_ask 18 = .ok (.iload_n 2, 1) := by decide +kernel
theorem dX10_ask_19 : decode cX10_ask 19 = .ok (.i2l, 1) := by decide +kernel
theorem dX10_ask_20 : decode cX10_ask 20 = .ok (.iload_n 3, 1) := by decide +kernel
theorem dX10_ask_21 : decode cX10_ask 21 = .ok (.invokevirtual 162, 3) := by decide +kernel
theorem dX10_ask_24 : decode cX10_ask 24 = .ok (.istore 4, 2) := by decide +kernel
theorem dX10_ask_26 : decode cX10_ask 26 = .ok (.iload 4, 2) := by decide +kernel
theorem dX10_ask_28 : decode cX10_ask 28 = .ok (.ifCond .le 9, 3) := by decide +kernel
theorem dX10_ask_31 : decode cX10_ask 31 = .ok (.bipush (-10), 2) := by decide +kernel
theorem dX10_ask_33 : decode cX10_ask 33 = .ok (.iload 4, 2) := by decide +kernel
theorem dX10_ask_35 : decode cX10_ask 35 = .ok (.isub, 1) := by decide +kernel
theorem dX10_ask_36 : decode cX10_ask 36 = .ok (.ireturn, 1) := by decide +kernel
theorem dX10_ask_37 : decode cX10_ask 37 = .ok (.aload_n 0, 1) := by decide +kernel
theorem dX10_ask_38 : decode cX10_ask 38 = .ok (.aload_n 0, 1) := by decide +kernel
theorem dX10_ask_39 : decode cX10_ask 39 = .ok (.aload_n 0, 1) := by decide +kernel
theorem dX10_ask_40 : decode cX10_ask 40 = .ok (.iload_n 1, 1) := by decide +kernel
theorem dX10_ask_41 : decode cX10_ask 41 = .ok (.iload_n 2, 1) := by decide +kernel
theorem dX10_ask_42 : decode cX10_ask 42 = .ok (.invokevirtual 135, 3) := by decide +kernel
theorem dX10_ask_45 : decode cX10_ask 45 = .ok (.iload_n 3, 1) := by decide +kernel
theorem dX10_ask_46 : decode cX10_ask 46 = .ok (.invokevirtual 166, 3) := by decide +kernel
theorem dX10_ask_49 : decode cX10_ask 49 = .ok (.putfield 170, 3) := by decide +kernel
theorem dX10_ask_52 : decode cX10_ask 52 = .ok (.iconst 1, 1) := by decide +kernel
theorem dX10_ask_53 : decode cX10_ask 53 = .ok (.ireturn, 1) := by decide +kernel
theorem dX10_box_0 : decode cX10_box 0 = .ok (.iload_n 1, 1) := by decide +kernel
theorem dX10_box_1 : decode cX10_box 1 = .ok (.invokestatic 141, 3) := by decide +kernel
theorem dX10_box_4 : decode cX10_box 4 = .ok (.ifCond .ne 5, 3) := by decide +kernel
theorem dX10_box_7 : decode cX10_box 7 = .ok (.iconst (-1), 1) := by decide +kernel
theorem dX10_box_8 : decode cX10_box 8 = .ok (.ireturn, 1) := by decide +kernel
theorem dX10_box_9 : decode cX10_box 9 = .ok (.aload_n 0, 1) := by decide +kernel
theorem dX10_box_10 : decode cX10_box 10 = .ok (.iload_n 1, 1) := by decide +kernel
theorem dX10_box_11 : decode cX10_box 11 = .ok (.iload_n 2, 1) := by decide +kernel
theorem dX10_box_12 : decode cX10_box 12 = .ok (.i2l, 1) := by decide +kernel
theorem dX10_box_13 : decode cX10_box 13 = .ok (.invokevirtual 155, 3) := by decide +kernel
theorem dX10_box_16 : decode cX10_box 16 = .ok (.istore_n 3, 1) := by decide +kernel
theorem dX10_box_17 : decode cX10_box 17 = .ok (.iload_n 3, 1) := by decide +kernel
theorem dX10_box_18 : decode cX10_box 18 = .ok (.ifCond .le 8, 3) := by decide +kernel
theorem dX10_box_21 : decode cX10_box 21 = .ok (.bipush (-10), 2) := by decide +kernel
theorem dX10_box_23 : decode cX10_box 23 = .ok (.iload_n 3, 1) := by decide +kernel
theorem dX10_box_24 : decode cX10_box 24 = .ok (.isub, 1) := by decide +kernel
theorem dX10_box_25 : decode cX10_box 25 = .ok (.ireturn, 1) := by decide +kernel
theorem dX10_box_26 : decode cX10_box 26 = .ok (.aload_n 0, 1) := by decide +kernel
theorem dX10_box_27 : decode cX10_box 27 = .ok (.iload_n 1, 1) := by decide +kernel
theorem dX10_box_28 : decode cX10_box 28 = .ok (.iload_n 2, 1) := by decide +kernel
theorem dX10_box_29 : decode cX10_box 29 = .ok (.invokevirtual 135, 3) := by decide +kernel
theorem dX10_box_32 : decode cX10_box 32 = .ok (.istore 4, 2) := by decide +kernel
theorem dX10_box_34 : decode cX10_box 34 = .ok (.aload_n 0, 1) := by decide +kernel
theorem dX10_box_35 : decode cX10_box 35 = .ok (.aload_n 0, 1) := by decide +kernel
theorem dX10_box_36 : decode cX10_box 36 = .ok (.iload 4, 2) := by decide +kernel
theorem dX10_box_38 : decode cX10_box 38 = .ok (.aload_n 0, 1) := by decide +kernel
theorem dX10_box_39 : decode cX10_box 39 = .ok (.getfield 7, 3) := by decide +kernel
theorem dX10_box_42 : decode cX10_box 42 = .ok (.iload 4, 2) := by decide +kernel
theorem dX10_box_44 : decode cX10_box 44 = .ok (.iaload, 1) := by decide +kernel
theorem dX10_box_45 : decode cX10_box 45 = .ok (.invokevirtual 166, 3) := by decide +kernel
theorem dX10_box_48 : decode cX10_box 48 = .ok (.putfield 170, 3) := by decide +kernel
theorem dX10_box_51 : decode cX10_box 51 = .ok (.aload_n 0, 1) := by decide +kernel
theorem dX10_box_52 : decode cX10_box 52 = .ok (.getfield 7, 3) := by decide +kernel
theorem dX10_box_55 : decode cX10_box 55 = .ok (.iload 4, 2) := by decide +kernel
theorem dX10_box_57 : decode cX10_box 57 = .ok (.iaload, 1) := by decide +kernel
theorem dX10_box_58 : decode cX10_box 58 = .ok (.ireturn, 1) := by decide +kernel
theorem dX10_got_0 : decode cX10_got 0 = .ok (.aload_n 0, 1) := by decide +kernel
theorem dX10_got_1 : decode cX10_got 1 = .ok (.getfield 170, 3) := by decide +kernel
theorem dX10_got_4 : decode cX10_got 4 = .ok (.lreturn, 1) := by decide +kernel
theorem dX10_putFault_0 : decode cX10_putFault 0 = .ok (.aload_n 0, 1) := by decide +kernel
theorem dX10_putFault_1 : decode cX10_putFault 1 = .ok (.iload_n 1, 1) := by decide +kernel
theorem dX10_putFault_2 : decode cX10_putFault 2 = .ok (.lload_n 2, 1) := by decide +kernel
theorem dX10_putFault_3 : decode cX10_putFault 3 = .ok (.invokevirtual 155, 3) := by decide +kernel
theorem dX10_putFault_6 : decode cX10_putFault 6 = .ok (.istore 5, 2) := by decide +kernel
theorem dX10_putFault_8 : decode cX10_putFault 8 = .ok (.iload 5, 2) := by decide +kernel
theorem dX10_putFault_10 : decode cX10_putFault 10 = .ok (.ifCond .le 6, 3) := by decide +kernel
theorem dX10_putFault_13 : decode cX10_putFault 13 = .ok (.iload 5, 2) := by decide +kernel
theorem dX10_putFault_15 : decode cX10_putFault 15 = .ok (.ireturn, 1) := by decide +kernel
theorem dX10_putFault_16 : decode cX10_putFault 16 = .ok (.aload_n 0, 1) := by decide +kernel
theorem dX10_putFault_17 : decode cX10_putFault 17 = .ok (.iload_n 1, 1) := by decide +kernel
theorem dX10_putFault_18 : decode cX10_putFault 18 = .ok (.invokevirtual 146, 3) := by decide +kernel
theorem dX10_putFault_21 : decode cX10_putFault 21 = .ok (.bipush 7, 2) := by decide +kernel
theorem dX10_putFault_23 : decode cX10_putFault 23 = .ok (.if_icmp .le 7, 3) := by decide +kernel
theorem dX10_putFault_26 : decode cX10_putFault 26 = .ok (.iconst 4, 1) := by decide +kernel
theorem dX10_putFault_27 : decode cX10_putFault 27 = .ok (.goto 21, 3) := by decide +kernel
theorem dX10_putFault_30 : decode cX10_putFault 30 = .ok (.iload 4, 2) := by decide +kernel
theorem dX10_putFault_32 : decode cX10_putFault 32 = .ok (.aload_n 0, 1) := by decide +kernel
theorem dX10_putFault_33 : decode cX10_putFault 33 = .ok (.iload_n 1, 1) := by decide +kernel
theorem dX10_putFault_34 : decode cX10_putFault 34 = .ok (.invokevirtual 146, 3) := by decide +kernel
theorem dX10_putFault_37 : decode cX10_putFault 37 = .ok (.invokestatic 80, 3) := by decide +kernel
theorem dX10_putFault_40 : decode cX10_putFault 40 = .ok (.ifCond .eq 7, 3) := by decide +kernel
theorem dX10_putFault_43 : decode cX10_putFault 43 = .ok (.iconst 0, 1) := by decide +kernel
theorem dX10_putFault_44 : decode cX10_putFault 44 = .ok (.goto 4, 3) := by decide +kernel
theorem dX10_putFault_47 : decode cX10_putFault 47 = .ok (.iconst 5, 1) := by decide +kernel
theorem dX10_putFault_48 : decode cX10_putFault 48 = .ok (.ireturn, 1) := by decide +kernel
theorem dX10_layFault_0 : decode cX10_layFault 0 = .ok (.aload_n 0, 1) := by decide +kernel
theorem dX10_layFault_1 : decode cX10_layFault 1 = .ok (.iload_n 1, 1) := by decide +kernel
theorem dX10_layFault_2 : decode cX10_layFault 2 = .ok (.lload_n 2, 1) := by decide +kernel
theorem dX10_layFault_3 : decode cX10_layFault 3 = .ok (.invokevirtual 155, 3) := by decide +kernel
theorem dX10_layFault_6 : decode cX10_layFault 6 = .ok (.istore 5, 2) := by decide +kernel
theorem dX10_layFault_8 : decode cX10_layFault 8 = .ok (.iload 5, 2) := by decide +kernel
theorem dX10_layFault_10 : decode cX10_layFault 10 = .ok (.ifCond .le 8, 3) := by decide +kernel
theorem dX10_layFault_13 : decode cX10_layFault 13 = .ok (.iload 5, 2) := by decide +kernel
theorem dX10_layFault_15 : decode cX10_layFault 15 = .ok (.goto 21, 3) := by decide +kernel
theorem dX10_layFault_18 : decode cX10_layFault 18 = .ok (.iload 4, 2) := by decide +kernel
theorem dX10_layFault_20 : decode cX10_layFault 20 = .ok (.aload_n 0, 1) := by decide +kernel
theorem dX10_layFault_21 : decode cX10_layFault 21 = .ok (.iload_n 1, 1) := by decide +kernel
theorem dX10_layFault_22 : decode cX10_layFault 22 = .ok (.invokevirtual 146, 3) := by decide +kernel
theorem dX10_layFault_25 : decode cX10_layFault 25 = .ok (.invokestatic 80, 3) := by decide +kernel
theorem dX10_layFault_28 : decode cX10_layFault 28 = .ok (.ifCond .eq 7, 3) := by decide +kernel
theorem dX10_layFault_31 : decode cX10_layFault 31 = .ok (.iconst 0, 1) := by decide +kernel
theorem dX10_layFault_32 : decode cX10_layFault 32 = .ok (.goto 4, 3) := by decide +kernel
theorem dX10_layFault_35 : decode cX10_layFault 35 = .ok (.iconst 5, 1) := by decide +kernel
theorem dX10_layFault_36 : decode cX10_layFault 36 = .ok (.ireturn, 1) := by decide +kernel
theorem dX10_laysValue_0 : decode cX10_laysValue 0 = .ok (.aload_n 0, 1) := by decide +kernel
theorem dX10_laysValue_1 : decode cX10_laysValue 1 = .ok (.sipush 520, 3) := by decide +kernel
theorem dX10_laysValue_4 : decode cX10_laysValue 4 = .ok (.iload_n 3, 1) := by decide +kernel
theorem dX10_laysValue_5 : decode cX10_laysValue 5 = .ok (.iload 4, 2) := by decide +kernel
theorem dX10_laysValue_7 : decode cX10_laysValue 7 = .ok (.invokevirtual 174, 3) := by decide +kernel
theorem dX10_laysValue_10 : decode cX10_laysValue 10 = .ok (.aload_n 0, 1) := by decide +kernel
theorem dX10_laysValue_11 : decode cX10_laysValue 11 = .ok (.sipush 520, 3) := by decide +kernel
theorem dX10_laysValue_14 : decode cX10_laysValue 14 = .ok (.aload_n 0, 1) := by decide +kernel
theorem dX10_laysValue_15 : decode cX10_laysValue 15 = .ok (.iload_n 1, 1) := by decide +kernel
theorem dX10_laysValue_16 : decode cX10_laysValue 16 = .ok (.invokevirtual 146, 3) := by decide +kernel
theorem dX10_laysValue_19 : decode cX10_laysValue 19 = .ok (.aload_n 0, 1) := by decide +kernel
theorem dX10_laysValue_20 : decode cX10_laysValue 20 = .ok (.iload_n 1, 1) := by decide +kernel
theorem dX10_laysValue_21 : decode cX10_laysValue 21 = .ok (.iload_n 2, 1) := by decide +kernel
theorem dX10_laysValue_22 : decode cX10_laysValue 22 = .ok (.invokevirtual 135, 3) := by decide +kernel
theorem dX10_laysValue_25 : decode cX10_laysValue 25 = .ok (.invokevirtual 138, 3) := by decide +kernel
theorem dX10_laysValue_28 : decode cX10_laysValue 28 = .ok (.return_, 1) := by decide +kernel
theorem dX10_put_0 : decode cX10_put 0 = .ok (.iload_n 1, 1) := by decide +kernel
theorem dX10_put_1 : decode cX10_put 1 = .ok (.invokestatic 141, 3) := by decide +kernel
theorem dX10_put_4 : decode cX10_put 4 = .ok (.ifCond .eq 10, 3) := by decide +kernel
theorem dX10_put_7 : decode cX10_put 7 = .ok (.iload_n 3, 1) := by decide +kernel
theorem dX10_put_8 : decode cX10_put 8 = .ok (.invokestatic 159, 3) := by decide +kernel
theorem dX10_put_11 : decode cX10_put 11 = .ok (.ifCond .ne 5, 3) := by decide +kernel
theorem dX10_put_14 : decode cX10_put 14 = .ok (.iconst (-1), 1) := by decide +kernel
theorem dX10_put_15 : decode cX10_put 15 = .ok (.ireturn, 1) := by decide +kernel
theorem dX10_put_16 : decode cX10_put 16 = .ok (.aload_n 0, 1) := by decide +kernel
theorem dX10_put_17 : decode cX10_put 17 = .ok (.iload_n 1, 1) := by decide +kernel
theorem dX10_put_18 : decode cX10_put 18 = .ok (.iload_n 2, 1) := by decide +kernel
theorem dX10_put_19 : decode cX10_put 19 = .ok (.i2l, 1) := by decide +kernel
theorem dX10_put_20 : decode cX10_put 20 = .ok (.iload_n 3, 1) := by decide +kernel
theorem dX10_put_21 : decode cX10_put 21 = .ok (.invokevirtual 177, 3) := by decide +kernel
theorem dX10_put_24 : decode cX10_put 24 = .ok (.istore 5, 2) := by decide +kernel
theorem dX10_put_26 : decode cX10_put 26 = .ok (.iload 5, 2) := by decide +kernel
theorem dX10_put_28 : decode cX10_put 28 = .ok (.ifCond .le 9, 3) := by decide +kernel
theorem dX10_put_31 : decode cX10_put 31 = .ok (.bipush (-10), 2) := by decide +kernel
theorem dX10_put_33 : decode cX10_put 33 = .ok (.iload 5, 2) := by decide +kernel
theorem dX10_put_35 : decode cX10_put 35 = .ok (.isub, 1) := by decide +kernel
theorem dX10_put_36 : decode cX10_put 36 = .ok (.ireturn, 1) := by decide +kernel
theorem dX10_put_37 : decode cX10_put 37 = .ok (.aload_n 0, 1) := by decide +kernel
theorem dX10_put_38 : decode cX10_put 38 = .ok (.iload_n 1, 1) := by decide +kernel
theorem dX10_put_39 : decode cX10_put 39 = .ok (.iload_n 2, 1) := by decide +kernel
theorem dX10_put_40 : decode cX10_put 40 = .ok (.iload_n 3, 1) := by decide +kernel
theorem dX10_put_41 : decode cX10_put 41 = .ok (.iload 4, 2) := by decide +kernel
theorem dX10_put_43 : decode cX10_put 43 = .ok (.invokevirtual 180, 3) := by decide +kernel
theorem dX10_put_46 : decode cX10_put 46 = .ok (.iconst 1, 1) := by decide +kernel
theorem dX10_put_47 : decode cX10_put 47 = .ok (.ireturn, 1) := by decide +kernel
theorem dX10_lay_0 : decode cX10_lay 0 = .ok (.iload_n 1, 1) := by decide +kernel
theorem dX10_lay_1 : decode cX10_lay 1 = .ok (.invokestatic 141, 3) := by decide +kernel
theorem dX10_lay_4 : decode cX10_lay 4 = .ok (.ifCond .eq 10, 3) := by decide +kernel
theorem dX10_lay_7 : decode cX10_lay 7 = .ok (.iload_n 3, 1) := by decide +kernel
theorem dX10_lay_8 : decode cX10_lay 8 = .ok (.invokestatic 184, 3) := by decide +kernel
theorem dX10_lay_11 : decode cX10_lay 11 = .ok (.ifCond .ne 5, 3) := by decide +kernel
theorem dX10_lay_14 : decode cX10_lay 14 = .ok (.iconst (-1), 1) := by decide +kernel
theorem dX10_lay_15 : decode cX10_lay 15 = .ok (.ireturn, 1) := by decide +kernel
theorem dX10_lay_16 : decode cX10_lay 16 = .ok (.aload_n 0, 1) := by decide +kernel
theorem dX10_lay_17 : decode cX10_lay 17 = .ok (.iload_n 1, 1) := by decide +kernel
theorem dX10_lay_18 : decode cX10_lay 18 = .ok (.iload_n 2, 1) := by decide +kernel
theorem dX10_lay_19 : decode cX10_lay 19 = .ok (.i2l, 1) := by decide +kernel
theorem dX10_lay_20 : decode cX10_lay 20 = .ok (.iload_n 3, 1) := by decide +kernel
theorem dX10_lay_21 : decode cX10_lay 21 = .ok (.invokevirtual 187, 3) := by decide +kernel
theorem dX10_lay_24 : decode cX10_lay 24 = .ok (.istore 5, 2) := by decide +kernel
theorem dX10_lay_26 : decode cX10_lay 26 = .ok (.iload 5, 2) := by decide +kernel
theorem dX10_lay_28 : decode cX10_lay 28 = .ok (.ifCond .le 9, 3) := by decide +kernel
theorem dX10_lay_31 : decode cX10_lay 31 = .ok (.bipush (-10), 2) := by decide +kernel
theorem dX10_lay_33 : decode cX10_lay 33 = .ok (.iload 5, 2) := by decide +kernel
theorem dX10_lay_35 : decode cX10_lay 35 = .ok (.isub, 1) := by decide +kernel
theorem dX10_lay_36 : decode cX10_lay 36 = .ok (.ireturn, 1) := by decide +kernel
theorem dX10_lay_37 : decode cX10_lay 37 = .ok (.aload_n 0, 1) := by decide +kernel
theorem dX10_lay_38 : decode cX10_lay 38 = .ok (.iload_n 1, 1) := by decide +kernel
theorem dX10_lay_39 : decode cX10_lay 39 = .ok (.iload_n 2, 1) := by decide +kernel
theorem dX10_lay_40 : decode cX10_lay 40 = .ok (.iload_n 3, 1) := by decide +kernel
theorem dX10_lay_41 : decode cX10_lay 41 = .ok (.iload 4, 2) := by decide +kernel
theorem dX10_lay_43 : decode cX10_lay 43 = .ok (.invokevirtual 180, 3) := by decide +kernel
theorem dX10_lay_46 : decode cX10_lay 46 = .ok (.iconst 1, 1) := by decide +kernel
theorem dX10_lay_47 : decode cX10_lay 47 = .ok (.ireturn, 1) := by decide +kernel
theorem dX10_fill_0 : decode cX10_fill 0 = .ok (.iload_n 1, 1) := by decide +kernel
theorem dX10_fill_1 : decode cX10_fill 1 = .ok (.invokestatic 141, 3) := by decide +kernel
theorem dX10_fill_4 : decode cX10_fill 4 = .ok (.ifCond .eq 23, 3) := by decide +kernel
theorem dX10_fill_7 : decode cX10_fill 7 = .ok (.iload_n 3, 1) := by decide +kernel
theorem dX10_fill_8 : decode cX10_fill 8 = .ok (.i2l, 1) := by decide +kernel
theorem dX10_fill_9 : decode cX10_fill 9 = .ok (.lconst 0, 1) := by decide +kernel
theorem dX10_fill_10 : decode cX10_fill 10 = .ok (.ldc2_w 190, 3) := by decide +kernel
theorem dX10_fill_13 : decode cX10_fill 13 = .ok (.invokestatic 72, 3) := by decide +kernel
theorem dX10_fill_16 : decode cX10_fill 16 = .ok (.ifCond .eq 11, 3) := by decide +kernel
theorem dX10_fill_19 : decode cX10_fill 19 = .ok (.iload 4, 2) := by decide +kernel
theorem dX10_fill_21 : decode cX10_fill 21 = .ok (.invokestatic 159, 3) := by decide +kernel
theorem dX10_fill_24 : decode cX10_fill 24 = .ok (.ifCond .ne 5, 3) := by decide +kernel
theorem dX10_fill_27 : decode cX10_fill 27 = .ok (.iconst (-1), 1) := by decide +kernel
theorem dX10_fill_28 : decode cX10_fill 28 = .ok (.ireturn, 1) := by decide +kernel
theorem dX10_fill_29 : decode cX10_fill 29 = .ok (.iconst 0, 1) := by decide +kernel
theorem dX10_fill_30 : decode cX10_fill 30 = .ok (.istore 6, 2) := by decide +kernel
theorem dX10_fill_32 : decode cX10_fill 32 = .ok (.aload_n 0, 1) := by decide +kernel
theorem dX10_fill_33 : decode cX10_fill 33 = .ok (.iconst 0, 1) := by decide +kernel
theorem dX10_fill_34 : decode cX10_fill 34 = .ok (.putfield 192, 3) := by decide +kernel
theorem dX10_fill_37 : decode cX10_fill 37 = .ok (.iload 6, 2) := by decide +kernel
theorem dX10_fill_39 : decode cX10_fill 39 = .ok (.iload_n 3, 1) := by decide +kernel
theorem dX10_fill_40 : decode cX10_fill 40 = .ok (.if_icmp .ge 53, 3) := by decide +kernel
theorem dX10_fill_43 : decode cX10_fill 43 = .ok (.aload_n 0, 1) := by decide +kernel
theorem dX10_fill_44 : decode cX10_fill 44 = .ok (.getfield 192, 3) := by decide +kernel
theorem dX10_fill_47 : decode cX10_fill 47 = .ok (.ifCond .ne 46, 3) := by decide +kernel
theorem dX10_fill_50 : decode cX10_fill 50 = .ok (.aload_n 0, 1) := by decide +kernel
theorem dX10_fill_51 : decode cX10_fill 51 = .ok (.aload_n 0, 1) := by decide +kernel
theorem dX10_fill_52 : decode cX10_fill 52 = .ok (.iload_n 1, 1) := by decide +kernel
theorem dX10_fill_53 : decode cX10_fill 53 = .ok (.iload_n 2, 1) := by decide +kernel
theorem dX10_fill_54 : decode cX10_fill 54 = .ok (.i2l, 1) := by decide +kernel
theorem dX10_fill_55 : decode cX10_fill 55 = .ok (.iload 6, 2) := by decide +kernel
theorem dX10_fill_57 : decode cX10_fill 57 = .ok (.i2l, 1) := by decide +kernel
theorem dX10_fill_58 : decode cX10_fill 58 = .ok (.ladd, 1) := by decide +kernel
theorem dX10_fill_59 : decode cX10_fill 59 = .ok (.iload 4, 2) := by decide +kernel
theorem dX10_fill_61 : decode cX10_fill 61 = .ok (.invokevirtual 177, 3) := by decide +kernel
theorem dX10_fill_64 : decode cX10_fill 64 = .ok (.putfield 192, 3) := by decide +kernel
theorem dX10_fill_67 : decode cX10_fill 67 = .ok (.aload_n 0, 1) := by decide +kernel
theorem dX10_fill_68 : decode cX10_fill 68 = .ok (.getfield 192, 3) := by decide +kernel
theorem dX10_fill_71 : decode cX10_fill 71 = .ok (.ifCond .ne (-34), 3) := by decide +kernel
theorem dX10_fill_74 : decode cX10_fill 74 = .ok (.aload_n 0, 1) := by decide +kernel
theorem dX10_fill_75 : decode cX10_fill 75 = .ok (.iload_n 1, 1) := by decide +kernel
theorem dX10_fill_76 : decode cX10_fill 76 = .ok (.iload_n 2, 1) := by decide +kernel
theorem dX10_fill_77 : decode cX10_fill 77 = .ok (.iload 6, 2) := by decide +kernel
theorem dX10_fill_79 : decode cX10_fill 79 = .ok (.iadd, 1) := by decide +kernel
theorem dX10_fill_80 : decode cX10_fill 80 = .ok (.iload 4, 2) := by decide +kernel
theorem dX10_fill_82 : decode cX10_fill 82 = .ok (.iload 5, 2) := by decide +kernel
theorem dX10_fill_84 : decode cX10_fill 84 = .ok (.invokevirtual 180, 3) := by decide +kernel
theorem dX10_fill_87 : decode cX10_fill 87 = .ok (.iinc 6 1, 3) := by decide +kernel
theorem dX10_fill_90 : decode cX10_fill 90 = .ok (.goto (-53), 3) := by decide +kernel
theorem dX10_fill_93 : decode cX10_fill 93 = .ok (.iload 6, 2) := by decide +kernel
theorem dX10_fill_95 : decode cX10_fill 95 = .ok (.ireturn, 1) := by decide +kernel
theorem dX10_moves_0 : decode cX10_moves 0 = .ok (.aload_n 0, 1) := by decide +kernel
theorem dX10_moves_1 : decode cX10_moves 1 = .ok (.iload 4, 2) := by decide +kernel
theorem dX10_moves_3 : decode cX10_moves 3 = .ok (.lload 5, 2) := by decide +kernel
theorem dX10_moves_5 : decode cX10_moves 5 = .ok (.invokevirtual 155, 3) := by decide +kernel
theorem dX10_moves_8 : decode cX10_moves 8 = .ok (.istore 7, 2) := by decide +kernel
theorem dX10_moves_10 : decode cX10_moves 10 = .ok (.iload 7, 2) := by decide +kernel
theorem dX10_moves_12 : decode cX10_moves 12 = .ok (.ifCond .le 6, 3) := by decide +kernel
theorem dX10_moves_15 : decode cX10_moves 15 = .ok (.iload 7, 2) := by decide +kernel
theorem dX10_moves_17 : decode cX10_moves 17 = .ok (.ireturn, 1) := by decide +kernel
theorem dX10_moves_18 : decode cX10_moves 18 = .ok (.aload_n 0, 1) := by decide +kernel
theorem dX10_moves_19 : decode cX10_moves 19 = .ok (.iload 4, 2) := by decide +kernel
theorem dX10_moves_21 : decode cX10_moves 21 = .ok (.lload 5, 2) := by decide +kernel
theorem dX10_moves_23 : decode cX10_moves 23 = .ok (.l2i, 1) := by decide +kernel
theorem dX10_moves_24 : decode cX10_moves 24 = .ok (.invokevirtual 135, 3) := by decide +kernel
theorem dX10_moves_27 : decode cX10_moves 27 = .ok (.istore 8, 2) := by decide +kernel
theorem dX10_moves_29 : decode cX10_moves 29 = .ok (.aload_n 0, 1) := by decide +kernel
theorem dX10_moves_30 : decode cX10_moves 30 = .ok (.iload_n 1, 1) := by decide +kernel
theorem dX10_moves_31 : decode cX10_moves 31 = .ok (.lload_n 2, 1) := by decide +kernel
theorem dX10_moves_32 : decode cX10_moves 32 = .ok (.aload_n 0, 1) := by decide +kernel
theorem dX10_moves_33 : decode cX10_moves 33 = .ok (.getfield 7, 3) := by decide +kernel
theorem dX10_moves_36 : decode cX10_moves 36 = .ok (.iload 8, 2) := by decide +kernel
theorem dX10_moves_38 : decode cX10_moves 38 = .ok (.iaload, 1) := by decide +kernel
theorem dX10_moves_39 : decode cX10_moves 39 = .ok (.invokevirtual 187, 3) := by decide +kernel
theorem dX10_moves_42 : decode cX10_moves 42 = .ok (.istore 7, 2) := by decide +kernel
theorem dX10_moves_44 : decode cX10_moves 44 = .ok (.iload 7, 2) := by decide +kernel
theorem dX10_moves_46 : decode cX10_moves 46 = .ok (.ifCond .ne 21, 3) := by decide +kernel
theorem dX10_moves_49 : decode cX10_moves 49 = .ok (.aload_n 0, 1) := by decide +kernel
theorem dX10_moves_50 : decode cX10_moves 50 = .ok (.iload 8, 2) := by decide +kernel
theorem dX10_moves_52 : decode cX10_moves 52 = .ok (.aload_n 0, 1) := by decide +kernel
theorem dX10_moves_53 : decode cX10_moves 53 = .ok (.iload_n 1, 1) := by decide +kernel
theorem dX10_moves_54 : decode cX10_moves 54 = .ok (.invokevirtual 146, 3) := by decide +kernel
theorem dX10_moves_57 : decode cX10_moves 57 = .ok (.aload_n 0, 1) := by decide +kernel
theorem dX10_moves_58 : decode cX10_moves 58 = .ok (.iload_n 1, 1) := by decide +kernel
theorem dX10_moves_59 : decode cX10_moves 59 = .ok (.lload_n 2, 1) := by decide +kernel
theorem dX10_moves_60 : decode cX10_moves 60 = .ok (.l2i, 1) := by decide +kernel
theorem dX10_moves_61 : decode cX10_moves 61 = .ok (.invokevirtual 135, 3) := by decide +kernel
theorem dX10_moves_64 : decode cX10_moves 64 = .ok (.invokevirtual 138, 3) := by decide +kernel
theorem dX10_moves_67 : decode cX10_moves 67 = .ok (.iload 7, 2) := by decide +kernel
theorem dX10_moves_69 : decode cX10_moves 69 = .ok (.ireturn, 1) := by decide +kernel
theorem dX10_move_0 : decode cX10_move 0 = .ok (.iload_n 1, 1) := by decide +kernel
theorem dX10_move_1 : decode cX10_move 1 = .ok (.invokestatic 141, 3) := by decide +kernel
theorem dX10_move_4 : decode cX10_move 4 = .ok (.ifCond .eq 23, 3) := by decide +kernel
theorem dX10_move_7 : decode cX10_move 7 = .ok (.iload_n 3, 1) := by decide +kernel
theorem dX10_move_8 : decode cX10_move 8 = .ok (.invokestatic 141, 3) := by decide +kernel
theorem dX10_move_11 : decode cX10_move 11 = .ok (.ifCond .eq 16, 3) := by decide +kernel
theorem dX10_move_14 : decode cX10_move 14 = .ok (.iload 5, 2) := by decide +kernel
theorem dX10_move_16 : decode cX10_move 16 = .ok (.i2l, 1) := by decide +kernel
theorem dX10_move_17 : decode cX10_move 17 = .ok (.lconst 0, 1) := by decide +kernel
theorem dX10_move_18 : decode cX10_move 18 = .ok (.ldc2_w 190, 3) := by decide +kernel
theorem dX10_move_21 : decode cX10_move 21 = .ok (.invokestatic 72, 3) := by decide +kernel
theorem dX10_move_24 : decode cX10_move 24 = .ok (.ifCond .ne 5, 3) := by decide +kernel
theorem dX10_move_27 : decode cX10_move 27 = .ok (.iconst (-1), 1) := by decide +kernel
theorem dX10_move_28 : decode cX10_move 28 = .ok (.ireturn, 1) := by decide +kernel
theorem dX10_move_29 : decode cX10_move 29 = .ok (.iconst 0, 1) := by decide +kernel
theorem dX10_move_30 : decode cX10_move 30 = .ok (.istore 6, 2) := by decide +kernel
theorem dX10_move_32 : decode cX10_move 32 = .ok (.aload_n 0, 1) := by decide +kernel
theorem dX10_move_33 : decode cX10_move 33 = .ok (.iconst 0, 1) := by decide +kernel
theorem dX10_move_34 : decode cX10_move 34 = .ok (.putfield 192, 3) := by decide +kernel
theorem dX10_move_37 : decode cX10_move 37 = .ok (.iload 6, 2) := by decide +kernel
theorem dX10_move_39 : decode cX10_move 39 = .ok (.iload 5, 2) := by decide +kernel
theorem dX10_move_41 : decode cX10_move 41 = .ok (.if_icmp .ge 56, 3) := by decide +kernel
theorem dX10_move_44 : decode cX10_move 44 = .ok (.aload_n 0, 1) := by decide +kernel
theorem dX10_move_45 : decode cX10_move 45 = .ok (.getfield 192, 3) := by decide +kernel
theorem dX10_move_48 : decode cX10_move 48 = .ok (.ifCond .ne 49, 3) := by decide +kernel
theorem dX10_move_51 : decode cX10_move 51 = .ok (.aload_n 0, 1) := by decide +kernel
theorem dX10_move_52 : decode cX10_move 52 = .ok (.aload_n 0, 1) := by decide +kernel
theorem dX10_move_53 : decode cX10_move 53 = .ok (.iload_n 1, 1) := by decide +kernel
theorem dX10_move_54 : decode cX10_move 54 = .ok (.iload_n 2, 1) := by decide +kernel
theorem dX10_move_55 : decode cX10_move 55 = .ok (.i2l, 1) := by decide +kernel
theorem dX10_move_56 : decode cX10_move 56 = .ok (.iload 6, 2) := by decide +kernel
theorem dX10_move_58 : decode cX10_move 58 = .ok (.i2l, 1) := by decide +kernel
theorem dX10_move_59 : decode cX10_move 59 = .ok (.ladd, 1) := by decide +kernel
theorem dX10_move_60 : decode cX10_move 60 = .ok (.iload_n 3, 1) := by decide +kernel
theorem dX10_move_61 : decode cX10_move 61 = .ok (.iload 4, 2) := by decide +kernel
theorem dX10_move_63 : decode cX10_move 63 = .ok (.i2l, 1) := by decide +kernel
theorem dX10_move_64 : decode cX10_move 64 = .ok (.iload 6, 2) := by decide +kernel
theorem dX10_move_66 : decode cX10_move 66 = .ok (.i2l, 1) := by decide +kernel
theorem dX10_move_67 : decode cX10_move 67 = .ok (.ladd, 1) := by decide +kernel
theorem dX10_move_68 : decode cX10_move 68 = .ok (.invokevirtual 196, 3) := by decide +kernel
theorem dX10_move_71 : decode cX10_move 71 = .ok (.putfield 192, 3) := by decide +kernel
theorem dX10_move_74 : decode cX10_move 74 = .ok (.iload 6, 2) := by decide +kernel
theorem dX10_move_76 : decode cX10_move 76 = .ok (.aload_n 0, 1) := by decide +kernel
theorem dX10_move_77 : decode cX10_move 77 = .ok (.getfield 192, 3) := by decide +kernel
theorem dX10_move_80 : decode cX10_move 80 = .ok (.ifCond .ne 7, 3) := by decide +kernel
theorem dX10_move_83 : decode cX10_move 83 = .ok (.iconst 1, 1) := by decide +kernel
theorem dX10_move_84 : decode cX10_move 84 = .ok (.goto 4, 3) := by decide +kernel
theorem dX10_move_87 : decode cX10_move 87 = .ok (.iconst 0, 1) := by decide +kernel
theorem dX10_move_88 : decode cX10_move 88 = .ok (.invokestatic 200, 3) := by decide +kernel
theorem dX10_move_91 : decode cX10_move 91 = .ok (.iadd, 1) := by decide +kernel
theorem dX10_move_92 : decode cX10_move 92 = .ok (.istore 6, 2) := by decide +kernel
theorem dX10_move_94 : decode cX10_move 94 = .ok (.goto (-57), 3) := by decide +kernel
theorem dX10_move_97 : decode cX10_move 97 = .ok (.iload 6, 2) := by decide +kernel
theorem dX10_move_99 : decode cX10_move 99 = .ok (.ireturn, 1) := by decide +kernel
theorem dX10_torn_0 : decode cX10_torn 0 = .ok (.aload_n 0, 1) := by decide +kernel
theorem dX10_torn_1 : decode cX10_torn 1 = .ok (.getfield 192, 3) := by decide +kernel
theorem dX10_torn_4 : decode cX10_torn 4 = .ok (.ireturn, 1) := by decide +kernel
theorem dX10_summed_0 : decode cX10_summed 0 = .ok (.lconst 0, 1) := by decide +kernel
theorem dX10_summed_1 : decode cX10_summed 1 = .ok (.lstore_n 3, 1) := by decide +kernel
theorem dX10_summed_2 : decode cX10_summed 2 = .ok (.fconst 0, 1) := by decide +kernel
theorem dX10_summed_3 : decode cX10_summed 3 = .ok (.fstore 5, 2) := by decide +kernel
theorem dX10_summed_5 : decode cX10_summed 5 = .ok (.dconst 0, 1) := by decide +kernel
theorem dX10_summed_6 : decode cX10_summed 6 = .ok (.dstore 6, 2) := by decide +kernel
theorem dX10_summed_8 : decode cX10_summed 8 = .ok (.iconst 0, 1) := by decide +kernel
theorem dX10_summed_9 : decode cX10_summed 9 = .ok (.istore 8, 2) := by decide +kernel
theorem dX10_summed_11 : decode cX10_summed 11 = .ok (.iload 8, 2) := by decide +kernel
theorem dX10_summed_13 : decode cX10_summed 13 = .ok (.aload_n 0, 1) := by decide +kernel
theorem dX10_summed_14 : decode cX10_summed 14 = .ok (.iload_n 1, 1) := by decide +kernel
theorem dX10_summed_15 : decode cX10_summed 15 = .ok (.invokevirtual 152, 3) := by decide +kernel
theorem dX10_summed_18 : decode cX10_summed 18 = .ok (.if_icmp .ge 77, 3) := by decide +kernel
theorem dX10_summed_21 : decode cX10_summed 21 = .ok (.iload_n 2, 1) := by decide +kernel
theorem dX10_summed_22 : decode cX10_summed 22 = .ok (.bipush 6, 2) := by decide +kernel
theorem dX10_summed_24 : decode cX10_summed 24 = .ok (.if_icmp .ne 24, 3) := by decide +kernel
theorem dX10_summed_27 : decode cX10_summed 27 = .ok (.fload 5, 2) := by decide +kernel
theorem dX10_summed_29 : decode cX10_summed 29 = .ok (.aload_n 0, 1) := by decide +kernel
theorem dX10_summed_30 : decode cX10_summed 30 = .ok (.aload_n 0, 1) := by decide +kernel
theorem dX10_summed_31 : decode cX10_summed 31 = .ok (.iload_n 1, 1) := by decide +kernel
theorem dX10_summed_32 : decode cX10_summed 32 = .ok (.iload 8, 2) := by decide +kernel
theorem dX10_summed_34 : decode cX10_summed 34 = .ok (.invokevirtual 135, 3) := by decide +kernel
theorem dX10_summed_37 : decode cX10_summed 37 = .ok (.iload_n 2, 1) := by decide +kernel
theorem dX10_summed_38 : decode cX10_summed 38 = .ok (.invokevirtual 88, 3) := by decide +kernel
theorem dX10_summed_41 : decode cX10_summed 41 = .ok (.d2f, 1) := by decide +kernel
theorem dX10_summed_42 : decode cX10_summed 42 = .ok (.fadd, 1) := by decide +kernel
theorem dX10_summed_43 : decode cX10_summed 43 = .ok (.fstore 5, 2) := by decide +kernel
theorem dX10_summed_45 : decode cX10_summed 45 = .ok (.goto 44, 3) := by decide +kernel
theorem dX10_summed_48 : decode cX10_summed 48 = .ok (.iload_n 2, 1) := by decide +kernel
theorem dX10_summed_49 : decode cX10_summed 49 = .ok (.bipush 7, 2) := by decide +kernel
theorem dX10_summed_51 : decode cX10_summed 51 = .ok (.if_icmp .ne 23, 3) := by decide +kernel
theorem dX10_summed_54 : decode cX10_summed 54 = .ok (.dload 6, 2) := by decide +kernel
theorem dX10_summed_56 : decode cX10_summed 56 = .ok (.aload_n 0, 1) := by decide +kernel
theorem dX10_summed_57 : decode cX10_summed 57 = .ok (.aload_n 0, 1) := by decide +kernel
theorem dX10_summed_58 : decode cX10_summed 58 = .ok (.iload_n 1, 1) := by decide +kernel
theorem dX10_summed_59 : decode cX10_summed 59 = .ok (.iload 8, 2) := by decide +kernel
theorem dX10_summed_61 : decode cX10_summed 61 = .ok (.invokevirtual 135, 3) := by decide +kernel
theorem dX10_summed_64 : decode cX10_summed 64 = .ok (.iload_n 2, 1) := by decide +kernel
theorem dX10_summed_65 : decode cX10_summed 65 = .ok (.invokevirtual 88, 3) := by decide +kernel
theorem dX10_summed_68 : decode cX10_summed 68 = .ok (.dadd, 1) := by decide +kernel
theorem dX10_summed_69 : decode cX10_summed 69 = .ok (.dstore 6, 2) := by decide +kernel
theorem dX10_summed_71 : decode cX10_summed 71 = .ok (.goto 18, 3) := by decide +kernel
theorem dX10_summed_74 : decode cX10_summed 74 = .ok (.lload_n 3, 1) := by decide +kernel
theorem dX10_summed_75 : decode cX10_summed 75 = .ok (.aload_n 0, 1) := by decide +kernel
theorem dX10_summed_76 : decode cX10_summed 76 = .ok (.getfield 13, 3) := by decide +kernel
theorem dX10_summed_79 : decode cX10_summed 79 = .ok (.aload_n 0, 1) := by decide +kernel
theorem dX10_summed_80 : decode cX10_summed 80 = .ok (.iload_n 1, 1) := by decide +kernel
theorem dX10_summed_81 : decode cX10_summed 81 = .ok (.iload 8, 2) := by decide +kernel
theorem dX10_summed_83 : decode cX10_summed 83 = .ok (.invokevirtual 135, 3) := by decide +kernel
theorem dX10_summed_86 : decode cX10_summed 86 = .ok (.laload, 1) := by decide +kernel
theorem dX10_summed_87 : decode cX10_summed 87 = .ok (.ladd, 1) := by decide +kernel
theorem dX10_summed_88 : decode cX10_summed 88 = .ok (.lstore_n 3, 1) := by decide +kernel
theorem dX10_summed_89 : decode cX10_summed 89 = .ok (.iinc 8 1, 3) := by decide +kernel
theorem dX10_summed_92 : decode cX10_summed 92 = .ok (.goto (-81), 3) := by decide +kernel
theorem dX10_summed_95 : decode cX10_summed 95 = .ok (.iload_n 2, 1) := by decide +kernel
theorem dX10_summed_96 : decode cX10_summed 96 = .ok (.bipush 6, 2) := by decide +kernel
theorem dX10_summed_98 : decode cX10_summed 98 = .ok (.if_icmp .ne 13, 3) := by decide +kernel
theorem dX10_summed_101 : decode cX10_summed 101 = .ok (.iload_n 2, 1) := by decide +kernel
theorem dX10_summed_102 : decode cX10_summed 102 = .ok (.fload 5, 2) := by decide +kernel
theorem dX10_summed_104 : decode cX10_summed 104 = .ok (.f2d, 1) := by decide +kernel
theorem dX10_summed_105 : decode cX10_summed 105 = .ok (.invokestatic 104, 3) := by decide +kernel
theorem dX10_summed_108 : decode cX10_summed 108 = .ok (.goto 19, 3) := by decide +kernel
theorem dX10_summed_111 : decode cX10_summed 111 = .ok (.iload_n 2, 1) := by decide +kernel
theorem dX10_summed_112 : decode cX10_summed 112 = .ok (.bipush 7, 2) := by decide +kernel
theorem dX10_summed_114 : decode cX10_summed 114 = .ok (.if_icmp .ne 12, 3) := by decide +kernel
theorem dX10_summed_117 : decode cX10_summed 117 = .ok (.iload_n 2, 1) := by decide +kernel
theorem dX10_summed_118 : decode cX10_summed 118 = .ok (.dload 6, 2) := by decide +kernel
theorem dX10_summed_120 : decode cX10_summed 120 = .ok (.invokestatic 104, 3) := by decide +kernel
theorem dX10_summed_123 : decode cX10_summed 123 = .ok (.goto 4, 3) := by decide +kernel
theorem dX10_summed_126 : decode cX10_summed 126 = .ok (.lload_n 3, 1) := by decide +kernel
theorem dX10_summed_127 : decode cX10_summed 127 = .ok (.lreturn, 1) := by decide +kernel
theorem dX10_sum_0 : decode cX10_sum 0 = .ok (.iload_n 1, 1) := by decide +kernel
theorem dX10_sum_1 : decode cX10_sum 1 = .ok (.invokestatic 141, 3) := by decide +kernel
theorem dX10_sum_4 : decode cX10_sum 4 = .ok (.ifCond .eq 15, 3) := by decide +kernel
theorem dX10_sum_7 : decode cX10_sum 7 = .ok (.iload_n 2, 1) := by decide +kernel
theorem dX10_sum_8 : decode cX10_sum 8 = .ok (.i2l, 1) := by decide +kernel
theorem dX10_sum_9 : decode cX10_sum 9 = .ok (.lconst 1, 1) := by decide +kernel
theorem dX10_sum_10 : decode cX10_sum 10 = .ok (.ldc2_w 70, 3) := by decide +kernel
theorem dX10_sum_13 : decode cX10_sum 13 = .ok (.invokestatic 72, 3) := by decide +kernel
theorem dX10_sum_16 : decode cX10_sum 16 = .ok (.ifCond .ne 5, 3) := by decide +kernel
theorem dX10_sum_19 : decode cX10_sum 19 = .ok (.iconst (-1), 1) := by decide +kernel
theorem dX10_sum_20 : decode cX10_sum 20 = .ok (.ireturn, 1) := by decide +kernel
theorem dX10_sum_21 : decode cX10_sum 21 = .ok (.aload_n 0, 1) := by decide +kernel
theorem dX10_sum_22 : decode cX10_sum 22 = .ok (.iload_n 1, 1) := by decide +kernel
theorem dX10_sum_23 : decode cX10_sum 23 = .ok (.invokevirtual 124, 3) := by decide +kernel
theorem dX10_sum_26 : decode cX10_sum 26 = .ok (.istore_n 3, 1) := by decide +kernel
theorem dX10_sum_27 : decode cX10_sum 27 = .ok (.iload_n 3, 1) := by decide +kernel
theorem dX10_sum_28 : decode cX10_sum 28 = .ok (.ifCond .ne 19, 3) := by decide +kernel
theorem dX10_sum_31 : decode cX10_sum 31 = .ok (.aload_n 0, 1) := by decide +kernel
theorem dX10_sum_32 : decode cX10_sum 32 = .ok (.iload_n 1, 1) := by decide +kernel
theorem dX10_sum_33 : decode cX10_sum 33 = .ok (.invokevirtual 152, 3) := by decide +kernel
theorem dX10_sum_36 : decode cX10_sum 36 = .ok (.ifCond .le 11, 3) := by decide +kernel
theorem dX10_sum_39 : decode cX10_sum 39 = .ok (.aload_n 0, 1) := by decide +kernel
theorem dX10_sum_40 : decode cX10_sum 40 = .ok (.iload_n 1, 1) := by decide +kernel
theorem dX10_sum_41 : decode cX10_sum 41 = .ok (.lconst 0, 1) := by decide +kernel
theorem dX10_sum_42 : decode cX10_sum 42 = .ok (.iload_n 2, 1) := by decide +kernel
theorem dX10_sum_43 : decode cX10_sum 43 = .ok (.invokevirtual 162, 3) := by decide +kernel
theorem dX10_sum_46 : decode cX10_sum 46 = .ok (.istore_n 3, 1) := by decide +kernel
theorem dX10_sum_47 : decode cX10_sum 47 = .ok (.iload_n 3, 1) := by decide +kernel
theorem dX10_sum_48 : decode cX10_sum 48 = .ok (.ifCond .le 8, 3) := by decide +kernel
theorem dX10_sum_51 : decode cX10_sum 51 = .ok (.bipush (-10), 2) := by decide +kernel
theorem dX10_sum_53 : decode cX10_sum 53 = .ok (.iload_n 3, 1) := by decide +kernel
theorem dX10_sum_54 : decode cX10_sum 54 = .ok (.isub, 1) := by decide +kernel
theorem dX10_sum_55 : decode cX10_sum 55 = .ok (.ireturn, 1) := by decide +kernel
theorem dX10_sum_56 : decode cX10_sum 56 = .ok (.aload_n 0, 1) := by decide +kernel
theorem dX10_sum_57 : decode cX10_sum 57 = .ok (.aload_n 0, 1) := by decide +kernel
theorem dX10_sum_58 : decode cX10_sum 58 = .ok (.iload_n 1, 1) := by decide +kernel
theorem dX10_sum_59 : decode cX10_sum 59 = .ok (.iload_n 2, 1) := by decide +kernel
theorem dX10_sum_60 : decode cX10_sum 60 = .ok (.invokevirtual 204, 3) := by decide +kernel
theorem dX10_sum_63 : decode cX10_sum 63 = .ok (.putfield 170, 3) := by decide +kernel
theorem dX10_sum_66 : decode cX10_sum 66 = .ok (.iconst 1, 1) := by decide +kernel
theorem dX10_sum_67 : decode cX10_sum 67 = .ok (.ireturn, 1) := by decide +kernel
theorem dX10_rate_0 : decode cX10_rate 0 = .ok (.iload_n 1, 1) := by decide +kernel
theorem dX10_rate_1 : decode cX10_rate 1 = .ok (.i2l, 1) := by decide +kernel
theorem dX10_rate_2 : decode cX10_rate 2 = .ok (.lconst 0, 1) := by decide +kernel
theorem dX10_rate_3 : decode cX10_rate 3 = .ok (.ldc2_w 207, 3) := by decide +kernel
theorem dX10_rate_6 : decode cX10_rate 6 = .ok (.invokestatic 72, 3) := by decide +kernel
theorem dX10_rate_9 : decode cX10_rate 9 = .ok (.ifCond .eq 39, 3) := by decide +kernel
theorem dX10_rate_12 : decode cX10_rate 12 = .ok (.iload_n 2, 1) := by decide +kernel
theorem dX10_rate_13 : decode cX10_rate 13 = .ok (.i2l, 1) := by decide +kernel
theorem dX10_rate_14 : decode cX10_rate 14 = .ok (.iload_n 1, 1) := by decide +kernel
theorem dX10_rate_15 : decode cX10_rate 15 = .ok (.iconst 1, 1) := by decide +kernel
theorem dX10_rate_16 : decode cX10_rate 16 = .ok (.if_icmp .eq 8, 3) := by decide +kernel
theorem dX10_rate_19 : decode cX10_rate 19 = .ok (.iload_n 1, 1) := by decide +kernel
theorem dX10_rate_20 : decode cX10_rate 20 = .ok (.iconst 2, 1) := by decide +kernel
theorem dX10_rate_21 : decode cX10_rate 21 = .ok (.if_icmp .ne 7, 3) := by decide +kernel
theorem dX10_rate_24 : decode cX10_rate 24 = .ok (.lconst 1, 1) := by decide +kernel
theorem dX10_rate_25 : decode cX10_rate 25 = .ok (.goto 4, 3) := by decide +kernel
theorem dX10_rate_28 : decode cX10_rate 28 = .ok (.lconst 0, 1) := by decide +kernel
theorem dX10_rate_29 : decode cX10_rate 29 = .ok (.iload_n 1, 1) := by decide +kernel
theorem dX10_rate_30 : decode cX10_rate 30 = .ok (.ifCond .ne 9, 3) := by decide +kernel
theorem dX10_rate_33 : decode cX10_rate 33 = .ok (.ldc2_w 209, 3) := by decide +kernel
theorem dX10_rate_36 : decode cX10_rate 36 = .ok (.goto 6, 3) := by decide +kernel
theorem dX10_rate_39 : decode cX10_rate 39 = .ok (.ldc2_w 211, 3) := by decide +kernel
theorem dX10_rate_42 : decode cX10_rate 42 = .ok (.invokestatic 72, 3) := by decide +kernel
theorem dX10_rate_45 : decode cX10_rate 45 = .ok (.ifCond .ne 5, 3) := by decide +kernel
theorem dX10_rate_48 : decode cX10_rate 48 = .ok (.iconst (-1), 1) := by decide +kernel
theorem dX10_rate_49 : decode cX10_rate 49 = .ok (.ireturn, 1) := by decide +kernel
theorem dX10_rate_50 : decode cX10_rate 50 = .ok (.aload_n 0, 1) := by decide +kernel
theorem dX10_rate_51 : decode cX10_rate 51 = .ok (.getfield 30, 3) := by decide +kernel
theorem dX10_rate_54 : decode cX10_rate 54 = .ok (.iload_n 1, 1) := by decide +kernel
theorem dX10_rate_55 : decode cX10_rate 55 = .ok (.iaload, 1) := by decide +kernel
theorem dX10_rate_56 : decode cX10_rate 56 = .ok (.istore_n 3, 1) := by decide +kernel
theorem dX10_rate_57 : decode cX10_rate 57 = .ok (.aload_n 0, 1) := by decide +kernel
theorem dX10_rate_58 : decode cX10_rate 58 = .ok (.getfield 30, 3) := by decide +kernel
theorem dX10_rate_61 : decode cX10_rate 61 = .ok (.iload_n 1, 1) := by decide +kernel
theorem dX10_rate_62 : decode cX10_rate 62 = .ok (.iload_n 2, 1) := by decide +kernel
theorem dX10_rate_63 : decode cX10_rate 63 = .ok (.iastore, 1) := by decide +kernel
theorem dX10_rate_64 : decode cX10_rate 64 = .ok (.iload_n 3, 1) := by decide +kernel
theorem dX10_rate_65 : decode cX10_rate 65 = .ok (.ireturn, 1) := by decide +kernel
theorem dX10_like_0 : decode cX10_like 0 = .ok (.iload_n 1, 1) := by decide +kernel
theorem dX10_like_1 : decode cX10_like 1 = .ok (.invokestatic 141, 3) := by decide +kernel
theorem dX10_like_4 : decode cX10_like 4 = .ok (.ifCond .eq 10, 3) := by decide +kernel
theorem dX10_like_7 : decode cX10_like 7 = .ok (.iload_n 3, 1) := by decide +kernel
theorem dX10_like_8 : decode cX10_like 8 = .ok (.invokestatic 141, 3) := by decide +kernel
theorem dX10_like_11 : decode cX10_like 11 = .ok (.ifCond .ne 5, 3) := by decide +kernel
theorem dX10_like_14 : decode cX10_like 14 = .ok (.iconst (-1), 1) := by decide +kernel
theorem dX10_like_15 : decode cX10_like 15 = .ok (.ireturn, 1) := by decide +kernel
theorem dX10_like_16 : decode cX10_like 16 = .ok (.aload_n 0, 1) := by decide +kernel
theorem dX10_like_17 : decode cX10_like 17 = .ok (.iload_n 1, 1) := by decide +kernel
theorem dX10_like_18 : decode cX10_like 18 = .ok (.iload_n 2, 1) := by decide +kernel
theorem dX10_like_19 : decode cX10_like 19 = .ok (.i2l, 1) := by decide +kernel
theorem dX10_like_20 : decode cX10_like 20 = .ok (.invokevirtual 155, 3) := by decide +kernel
theorem dX10_like_23 : decode cX10_like 23 = .ok (.istore 5, 2) := by decide +kernel
theorem dX10_like_25 : decode cX10_like 25 = .ok (.iload 5, 2) := by decide +kernel
theorem dX10_like_27 : decode cX10_like 27 = .ok (.ifCond .le 8, 3) := by decide +kernel
theorem dX10_like_30 : decode cX10_like 30 = .ok (.iload 5, 2) := by decide +kernel
theorem dX10_like_32 : decode cX10_like 32 = .ok (.goto 11, 3) := by decide +kernel
theorem dX10_like_35 : decode cX10_like 35 = .ok (.aload_n 0, 1) := by decide +kernel
theorem dX10_like_36 : decode cX10_like 36 = .ok (.iload_n 3, 1) := by decide +kernel
theorem dX10_like_37 : decode cX10_like 37 = .ok (.iload 4, 2) := by decide +kernel
theorem dX10_like_39 : decode cX10_like 39 = .ok (.i2l, 1) := by decide +kernel
theorem dX10_like_40 : decode cX10_like 40 = .ok (.invokevirtual 155, 3) := by decide +kernel
theorem dX10_like_43 : decode cX10_like 43 = .ok (.istore 5, 2) := by decide +kernel
theorem dX10_like_45 : decode cX10_like 45 = .ok (.iload 5, 2) := by decide +kernel
theorem dX10_like_47 : decode cX10_like 47 = .ok (.ifCond .le 11, 3) := by decide +kernel
theorem dX10_like_50 : decode cX10_like 50 = .ok (.bipush (-10), 2) := by decide +kernel
theorem dX10_like_52 : decode cX10_like 52 = .ok (.iload 5, 2) := by decide +kernel
theorem dX10_like_54 : decode cX10_like 54 = .ok (.isub, 1) := by decide +kernel
theorem dX10_like_55 : decode cX10_like 55 = .ok (.goto 20, 3) := by decide +kernel
theorem dX10_like_58 : decode cX10_like 58 = .ok (.aload_n 0, 1) := by decide +kernel
theorem dX10_like_59 : decode cX10_like 59 = .ok (.aload_n 0, 1) := by decide +kernel
theorem dX10_like_60 : decode cX10_like 60 = .ok (.iload_n 1, 1) := by decide +kernel
theorem dX10_like_61 : decode cX10_like 61 = .ok (.iload_n 2, 1) := by decide +kernel
theorem dX10_like_62 : decode cX10_like 62 = .ok (.invokevirtual 135, 3) := by decide +kernel
theorem dX10_like_65 : decode cX10_like 65 = .ok (.aload_n 0, 1) := by decide +kernel
theorem dX10_like_66 : decode cX10_like 66 = .ok (.iload_n 3, 1) := by decide +kernel
theorem dX10_like_67 : decode cX10_like 67 = .ok (.iload 4, 2) := by decide +kernel
theorem dX10_like_69 : decode cX10_like 69 = .ok (.invokevirtual 135, 3) := by decide +kernel
theorem dX10_like_72 : decode cX10_like 72 = .ok (.invokevirtual 213, 3) := by decide +kernel
theorem dX10_like_75 : decode cX10_like 75 = .ok (.ireturn, 1) := by decide +kernel
theorem dX10_besideCosts_0 : decode cX10_besideCosts 0 = .ok (.aload_n 0, 1) := by decide +kernel
theorem dX10_besideCosts_1 : decode cX10_besideCosts 1 = .ok (.iload_n 1, 1) := by decide +kernel
theorem dX10_besideCosts_2 : decode cX10_besideCosts 2 = .ok (.iload_n 2, 1) := by decide +kernel
theorem dX10_besideCosts_3 : decode cX10_besideCosts 3 = .ok (.invokevirtual 213, 3) := by decide +kernel
theorem dX10_besideCosts_6 : decode cX10_besideCosts 6 = .ok (.istore_n 3, 1) := by decide +kernel
theorem dX10_besideCosts_7 : decode cX10_besideCosts 7 = .ok (.iload_n 3, 1) := by decide +kernel
theorem dX10_besideCosts_8 : decode cX10_besideCosts 8 = .ok (.iconst 2, 1) := by decide +kernel
theorem dX10_besideCosts_9 : decode cX10_besideCosts 9 = .ok (.if_icmp .ne 12, 3) := by decide +kernel
theorem dX10_besideCosts_12 : decode cX10_besideCosts 12 = .ok (.aload_n 0, 1) := by decide +kernel
theorem dX10_besideCosts_13 : decode cX10_besideCosts 13 = .ok (.getfield 30, 3) := by decide +kernel
theorem dX10_besideCosts_16 : decode cX10_besideCosts 16 = .ok (.iconst 1, 1) := by decide +kernel
theorem dX10_besideCosts_17 : decode cX10_besideCosts 17 = .ok (.iaload, 1) := by decide +kernel
theorem dX10_besideCosts_18 : decode cX10_besideCosts 18 = .ok (.goto 4, 3) := by decide +kernel
theorem dX10_besideCosts_21 : decode cX10_besideCosts 21 = .ok (.iload_n 3, 1) := by decide +kernel
theorem dX10_besideCosts_22 : decode cX10_besideCosts 22 = .ok (.ireturn, 1) := by decide +kernel
theorem dX10_isTwice_0 : decode cX10_isTwice 0 = .ok (.iload_n 2, 1) := by decide +kernel
theorem dX10_isTwice_1 : decode cX10_isTwice 1 = .ok (.ifCond .le 28, 3) := by decide +kernel
theorem dX10_isTwice_4 : decode cX10_isTwice 4 = .ok (.aload_n 0, 1) := by decide +kernel
theorem dX10_isTwice_5 : decode cX10_isTwice 5 = .ok (.bipush 20, 2) := by decide +kernel
theorem dX10_isTwice_7 : decode cX10_isTwice 7 = .ok (.iload_n 1, 1) := by decide +kernel
theorem dX10_isTwice_8 : decode cX10_isTwice 8 = .ok (.imul, 1) := by decide +kernel
theorem dX10_isTwice_9 : decode cX10_isTwice 9 = .ok (.iload_n 2, 1) := by decide +kernel
theorem dX10_isTwice_10 : decode cX10_isTwice 10 = .ok (.iadd, 1) := by decide +kernel
theorem dX10_isTwice_11 : decode cX10_isTwice 11 = .ok (.iconst 1, 1) := by decide +kernel
theorem dX10_isTwice_12 : decode cX10_isTwice 12 = .ok (.isub, 1) := by decide +kernel
theorem dX10_isTwice_13 : decode cX10_isTwice 13 = .ok (.bipush 20, 2) := by decide +kernel
theorem dX10_isTwice_15 : decode cX10_isTwice 15 = .ok (.iload_n 1, 1) := by decide +kernel
theorem dX10_isTwice_16 : decode cX10_isTwice 16 = .ok (.imul, 1) := by decide +kernel
theorem dX10_isTwice_17 : decode cX10_isTwice 17 = .ok (.iload_n 2, 1) := by decide +kernel
theorem dX10_isTwice_18 : decode cX10_isTwice 18 = .ok (.iadd, 1) := by decide +kernel
theorem dX10_isTwice_19 : decode cX10_isTwice 19 = .ok (.invokevirtual 112, 3) := by decide +kernel
theorem dX10_isTwice_22 : decode cX10_isTwice 22 = .ok (.ifCond .eq 7, 3) := by decide +kernel
theorem dX10_isTwice_25 : decode cX10_isTwice 25 = .ok (.iconst 1, 1) := by decide +kernel
theorem dX10_isTwice_26 : decode cX10_isTwice 26 = .ok (.goto 4, 3) := by decide +kernel
theorem dX10_isTwice_29 : decode cX10_isTwice 29 = .ok (.iconst 0, 1) := by decide +kernel
theorem dX10_isTwice_30 : decode cX10_isTwice 30 = .ok (.ireturn, 1) := by decide +kernel
theorem dX10_aloneCosts_0 : decode cX10_aloneCosts 0 = .ok (.aload_n 0, 1) := by decide +kernel
theorem dX10_aloneCosts_1 : decode cX10_aloneCosts 1 = .ok (.iload_n 1, 1) := by decide +kernel
theorem dX10_aloneCosts_2 : decode cX10_aloneCosts 2 = .ok (.iload_n 2, 1) := by decide +kernel
theorem dX10_aloneCosts_3 : decode cX10_aloneCosts 3 = .ok (.invokevirtual 216, 3) := by decide +kernel
theorem dX10_aloneCosts_6 : decode cX10_aloneCosts 6 = .ok (.ifCond .eq 12, 3) := by decide +kernel
theorem dX10_aloneCosts_9 : decode cX10_aloneCosts 9 = .ok (.aload_n 0, 1) := by decide +kernel
theorem dX10_aloneCosts_10 : decode cX10_aloneCosts 10 = .ok (.getfield 30, 3) := by decide +kernel
theorem dX10_aloneCosts_13 : decode cX10_aloneCosts 13 = .ok (.iconst 3, 1) := by decide +kernel
theorem dX10_aloneCosts_14 : decode cX10_aloneCosts 14 = .ok (.iaload, 1) := by decide +kernel
theorem dX10_aloneCosts_15 : decode cX10_aloneCosts 15 = .ok (.goto 9, 3) := by decide +kernel
theorem dX10_aloneCosts_18 : decode cX10_aloneCosts 18 = .ok (.aload_n 0, 1) := by decide +kernel
theorem dX10_aloneCosts_19 : decode cX10_aloneCosts 19 = .ok (.getfield 30, 3) := by decide +kernel
theorem dX10_aloneCosts_22 : decode cX10_aloneCosts 22 = .ok (.iconst 2, 1) := by decide +kernel
theorem dX10_aloneCosts_23 : decode cX10_aloneCosts 23 = .ok (.iaload, 1) := by decide +kernel
theorem dX10_aloneCosts_24 : decode cX10_aloneCosts 24 = .ok (.ireturn, 1) := by decide +kernel
theorem dX10_leastOf_0 : decode cX10_leastOf 0 = .ok (.iload_n 0, 1) := by decide +kernel
theorem dX10_leastOf_1 : decode cX10_leastOf 1 = .ok (.iload_n 1, 1) := by decide +kernel
theorem dX10_leastOf_2 : decode cX10_leastOf 2 = .ok (.if_icmp .ge 7, 3) := by decide +kernel
theorem dX10_leastOf_5 : decode cX10_leastOf 5 = .ok (.iload_n 0, 1) := by decide +kernel
theorem dX10_leastOf_6 : decode cX10_leastOf 6 = .ok (.goto 4, 3) := by decide +kernel
theorem dX10_leastOf_9 : decode cX10_leastOf 9 = .ok (.iload_n 1, 1) := by decide +kernel
theorem dX10_leastOf_10 : decode cX10_leastOf 10 = .ok (.ireturn, 1) := by decide +kernel
theorem dX10_pathCosts_0 : decode cX10_pathCosts 0 = .ok (.aload_n 0, 1) := by decide +kernel
theorem dX10_pathCosts_1 : decode cX10_pathCosts 1 = .ok (.getfield 24, 3) := by decide +kernel
theorem dX10_pathCosts_4 : decode cX10_pathCosts 4 = .ok (.iload_n 1, 1) := by decide +kernel
theorem dX10_pathCosts_5 : decode cX10_pathCosts 5 = .ok (.iaload, 1) := by decide +kernel
theorem dX10_pathCosts_6 : decode cX10_pathCosts 6 = .ok (.istore_n 3, 1) := by decide +kernel
theorem dX10_pathCosts_7 : decode cX10_pathCosts 7 = .ok (.iload_n 3, 1) := by decide +kernel
theorem dX10_pathCosts_8 : decode cX10_pathCosts 8 = .ok (.ifCond .lt 211, 3) := by decide +kernel
theorem dX10_pathCosts_11 : decode cX10_pathCosts 11 = .ok (.aload_n 0, 1) := by decide +kernel
theorem dX10_pathCosts_12 : decode cX10_pathCosts 12 = .ok (.getfield 24, 3) := by decide +kernel
theorem dX10_pathCosts_15 : decode cX10_pathCosts 15 = .ok (.iload_n 2, 1) := by decide +kernel
theorem dX10_pathCosts_16 : decode cX10_pathCosts 16 = .ok (.iaload, 1) := by decide +kernel
theorem dX10_pathCosts_17 : decode cX10_pathCosts 17 = .ok (.istore 4, 2) := by decide +kernel
theorem dX10_pathCosts_19 : decode cX10_pathCosts 19 = .ok (.iload 4, 2) := by decide +kernel
theorem dX10_pathCosts_21 : decode cX10_pathCosts 21 = .ok (.ifCond .lt 192, 3) := by decide +kernel
theorem dX10_pathCosts_24 : decode cX10_pathCosts 24 = .ok (.iload_n 3, 1) := by decide +kernel
theorem dX10_pathCosts_25 : decode cX10_pathCosts 25 = .ok (.aload_n 0, 1) := by decide +kernel
theorem dX10_pathCosts_26 : decode cX10_pathCosts 26 = .ok (.getfield 24, 3) := by decide +kernel
theorem dX10_pathCosts_29 : decode cX10_pathCosts 29 = .ok (.iload_n 1, 1) := by decide +kernel
theorem dX10_pathCosts_30 : decode cX10_pathCosts 30 = .ok (.iaload, 1) := by decide +kernel
theorem dX10_pathCosts_31 : decode cX10_pathCosts 31 = .ok (.if_icmp .ne 18, 3) := by decide +kernel
theorem dX10_pathCosts_34 : decode cX10_pathCosts 34 = .ok (.iload 4, 2) := by decide +kernel
theorem dX10_pathCosts_36 : decode cX10_pathCosts 36 = .ok (.aload_n 0, 1) := by decide +kernel
theorem dX10_pathCosts_37 : decode cX10_pathCosts 37 = .ok (.getfield 24, 3) := by decide +kernel
theorem dX10_pathCosts_40 : decode cX10_pathCosts 40 = .ok (.iload_n 2, 1) := by decide +kernel
theorem dX10_pathCosts_41 : decode cX10_pathCosts 41 = .ok (.iaload, 1) := by decide +kernel
theorem dX10_pathCosts_42 : decode cX10_pathCosts 42 = .ok (.if_icmp .ne 7, 3) := by decide +kernel
theorem dX10_pathCosts_45 : decode cX10_pathCosts 45 = .ok (.iconst 0, 1) := by decide +kernel
theorem dX10_pathCosts_46 : decode cX10_pathCosts 46 = .ok (.goto 5, 3) := by decide +kernel
theorem dX10_pathCosts_49 : decode cX10_pathCosts 49 = .ok (.ldc 219, 2) := by decide +kernel
theorem dX10_pathCosts_51 : decode cX10_pathCosts 51 = .ok (.istore 5, 2) := by decide +kernel
theorem dX10_pathCosts_53 : decode cX10_pathCosts 53 = .ok (.iload_n 3, 1) := by decide +kernel
theorem dX10_pathCosts_54 : decode cX10_pathCosts 54 = .ok (.aload_n 0, 1) := by decide +kernel
theorem dX10_pathCosts_55 : decode cX10_pathCosts 55 = .ok (.getfield 24, 3) := by decide +kernel
theorem dX10_pathCosts_58 : decode cX10_pathCosts 58 = .ok (.iload_n 1, 1) := by decide +kernel
theorem dX10_pathCosts_59 : decode cX10_pathCosts 59 = .ok (.iaload, 1) := by decide +kernel
theorem dX10_pathCosts_60 : decode cX10_pathCosts 60 = .ok (.if_icmp .ge 32, 3) := by decide +kernel
theorem dX10_pathCosts_63 : decode cX10_pathCosts 63 = .ok (.iload 5, 2) := by decide +kernel
theorem dX10_pathCosts_65 : decode cX10_pathCosts 65 = .ok (.aload_n 0, 1) := by decide +kernel
theorem dX10_pathCosts_66 : decode cX10_pathCosts 66 = .ok (.iload_n 1, 1) := by decide +kernel
theorem dX10_pathCosts_67 : decode cX10_pathCosts 67 = .ok (.iload_n 3, 1) := by decide +kernel
theorem dX10_pathCosts_68 : decode cX10_pathCosts 68 = .ok (.invokevirtual 220, 3) := by decide +kernel
theorem dX10_pathCosts_71 : decode cX10_pathCosts 71 = .ok (.aload_n 0, 1) := by decide +kernel
theorem dX10_pathCosts_72 : decode cX10_pathCosts 72 = .ok (.getfield 33, 3) := by decide +kernel
theorem dX10_pathCosts_75 : decode cX10_pathCosts 75 = .ok (.bipush 21, 2) := by decide +kernel
theorem dX10_pathCosts_77 : decode cX10_pathCosts 77 = .ok (.iload_n 3, 1) := by decide +kernel
theorem dX10_pathCosts_78 : decode cX10_pathCosts 78 = .ok (.imul, 1) := by decide +kernel
theorem dX10_pathCosts_79 : decode cX10_pathCosts 79 = .ok (.bipush 21, 2) := by decide +kernel
theorem dX10_pathCosts_81 : decode cX10_pathCosts 81 = .ok (.iadd, 1) := by decide +kernel
theorem dX10_pathCosts_82 : decode cX10_pathCosts 82 = .ok (.iload 4, 2) := by decide +kernel
theorem dX10_pathCosts_84 : decode cX10_pathCosts 84 = .ok (.iadd, 1) := by decide +kernel
theorem dX10_pathCosts_85 : decode cX10_pathCosts 85 = .ok (.iaload, 1) := by decide +kernel
theorem dX10_pathCosts_86 : decode cX10_pathCosts 86 = .ok (.iadd, 1) := by decide +kernel
theorem dX10_pathCosts_87 : decode cX10_pathCosts 87 = .ok (.invokestatic 223, 3) := by decide +kernel
theorem dX10_pathCosts_90 : decode cX10_pathCosts 90 = .ok (.istore 5, 2) := by decide +kernel
theorem dX10_pathCosts_92 : decode cX10_pathCosts 92 = .ok (.iload 4, 2) := by decide +kernel
theorem dX10_pathCosts_94 : decode cX10_pathCosts 94 = .ok (.aload_n 0, 1) := by decide +kernel
theorem dX10_pathCosts_95 : decode cX10_pathCosts 95 = .ok (.getfield 24, 3) := by decide +kernel
theorem dX10_pathCosts_98 : decode cX10_pathCosts 98 = .ok (.iload_n 2, 1) := by decide +kernel
theorem dX10_pathCosts_99 : decode cX10_pathCosts 99 = .ok (.iaload, 1) := by decide +kernel
theorem dX10_pathCosts_100 : decode cX10_pathCosts 100 = .ok (.if_icmp .ge 32, 3) := by decide +kernel
theorem dX10_pathCosts_103 : decode cX10_pathCosts 103 = .ok (.iload 5, 2) := by decide +kernel
theorem dX10_pathCosts_105 : decode cX10_pathCosts 105 = .ok (.aload_n 0, 1) := by decide +kernel
theorem dX10_pathCosts_106 : decode cX10_pathCosts 106 = .ok (.iload_n 2, 1) := by decide +kernel
theorem dX10_pathCosts_107 : decode cX10_pathCosts 107 = .ok (.iload 4, 2) := by decide +kernel
theorem dX10_pathCosts_109 : decode cX10_pathCosts 109 = .ok (.invokevirtual 220, 3) := by decide +kernel
theorem dX10_pathCosts_112 : decode cX10_pathCosts 112 = .ok (.aload_n 0, 1) := by decide +kernel
theorem dX10_pathCosts_113 : decode cX10_pathCosts 113 = .ok (.getfield 33, 3) := by decide +kernel
theorem dX10_pathCosts_116 : decode cX10_pathCosts 116 = .ok (.bipush 21, 2) := by decide +kernel
theorem dX10_pathCosts_118 : decode cX10_pathCosts 118 = .ok (.iload_n 3, 1) := by decide +kernel
theorem dX10_pathCosts_119 : decode cX10_pathCosts 119 = .ok (.imul, 1) := by decide +kernel
theorem dX10_pathCosts_120 : decode cX10_pathCosts 120 = .ok (.iload 4, 2) := by decide +kernel
theorem dX10_pathCosts_122 : decode cX10_pathCosts 122 = .ok (.iadd, 1) := by decide +kernel
theorem dX10_pathCosts_123 : decode cX10_pathCosts 123 = .ok (.iconst 1, 1) := by decide +kernel
theorem dX10_pathCosts_124 : decode cX10_pathCosts 124 = .ok (.iadd, 1) := by decide +kernel
theorem dX10_pathCosts_125 : decode cX10_pathCosts 125 = .ok (.iaload, 1) := by decide +kernel
theorem dX10_pathCosts_126 : decode cX10_pathCosts 126 = .ok (.iadd, 1) := by decide +kernel
theorem dX10_pathCosts_127 : decode cX10_pathCosts 127 = .ok (.invokestatic 223, 3) := by decide +kernel
theorem dX10_pathCosts_130 : decode cX10_pathCosts 130 = .ok (.istore 5, 2) := by decide +kernel
theorem dX10_pathCosts_132 : decode cX10_pathCosts 132 = .ok (.iload_n 3, 1) := by decide +kernel
theorem dX10_pathCosts_133 : decode cX10_pathCosts 133 = .ok (.aload_n 0, 1) := by decide +kernel
theorem dX10_pathCosts_134 : decode cX10_pathCosts 134 = .ok (.getfield 24, 3) := by decide +kernel
theorem dX10_pathCosts_137 : decode cX10_pathCosts 137 = .ok (.iload_n 1, 1) := by decide +kernel
theorem dX10_pathCosts_138 : decode cX10_pathCosts 138 = .ok (.iaload, 1) := by decide +kernel
theorem dX10_pathCosts_139 : decode cX10_pathCosts 139 = .ok (.if_icmp .ge 54, 3) := by decide +kernel
theorem dX10_pathCosts_142 : decode cX10_pathCosts 142 = .ok (.iload 4, 2) := by decide +kernel
theorem dX10_pathCosts_144 : decode cX10_pathCosts 144 = .ok (.aload_n 0, 1) := by decide +kernel
theorem dX10_pathCosts_145 : decode cX10_pathCosts 145 = .ok (.getfield 24, 3) := by decide +kernel
theorem dX10_pathCosts_148 : decode cX10_pathCosts 148 = .ok (.iload_n 2, 1) := by decide +kernel
theorem dX10_pathCosts_149 : decode cX10_pathCosts 149 = .ok (.iaload, 1) := by decide +kernel
theorem dX10_pathCosts_150 : decode cX10_pathCosts 150 = .ok (.if_icmp .ge 43, 3) := by decide +kernel
theorem dX10_pathCosts_153 : decode cX10_pathCosts 153 = .ok (.iload 5, 2) := by decide +kernel
theorem dX10_pathCosts_155 : decode cX10_pathCosts 155 = .ok (.aload_n 0, 1) := by decide +kernel
theorem dX10_pathCosts_156 : decode cX10_pathCosts 156 = .ok (.bipush 20, 2) := by decide +kernel
theorem dX10_pathCosts_158 : decode cX10_pathCosts 158 = .ok (.iload_n 1, 1) := by decide +kernel
theorem dX10_pathCosts_159 : decode cX10_pathCosts 159 = .ok (.imul, 1) := by decide +kernel
theorem dX10_pathCosts_160 : decode cX10_pathCosts 160 = .ok (.iload_n 3, 1) := by decide +kernel
theorem dX10_pathCosts_161 : decode cX10_pathCosts 161 = .ok (.iadd, 1) := by decide +kernel
theorem dX10_pathCosts_162 : decode cX10_pathCosts 162 = .ok (.bipush 20, 2) := by decide +kernel
theorem dX10_pathCosts_164 : decode cX10_pathCosts 164 = .ok (.iload_n 2, 1) := by decide +kernel
theorem dX10_pathCosts_165 : decode cX10_pathCosts 165 = .ok (.imul, 1) := by decide +kernel
theorem dX10_pathCosts_166 : decode cX10_pathCosts 166 = .ok (.iload 4, 2) := by decide +kernel
theorem dX10_pathCosts_168 : decode cX10_pathCosts 168 = .ok (.iadd, 1) := by decide +kernel
theorem dX10_pathCosts_169 : decode cX10_pathCosts 169 = .ok (.invokevirtual 226, 3) := by decide +kernel
theorem dX10_pathCosts_172 : decode cX10_pathCosts 172 = .ok (.aload_n 0, 1) := by decide +kernel
theorem dX10_pathCosts_173 : decode cX10_pathCosts 173 = .ok (.getfield 33, 3) := by decide +kernel
theorem dX10_pathCosts_176 : decode cX10_pathCosts 176 = .ok (.bipush 21, 2) := by decide +kernel
theorem dX10_pathCosts_178 : decode cX10_pathCosts 178 = .ok (.iload_n 3, 1) := by decide +kernel
theorem dX10_pathCosts_179 : decode cX10_pathCosts 179 = .ok (.imul, 1) := by decide +kernel
theorem dX10_pathCosts_180 : decode cX10_pathCosts 180 = .ok (.bipush 22, 2) := by decide +kernel
theorem dX10_pathCosts_182 : decode cX10_pathCosts 182 = .ok (.iadd, 1) := by decide +kernel
theorem dX10_pathCosts_183 : decode cX10_pathCosts 183 = .ok (.iload 4, 2) := by decide +kernel
theorem dX10_pathCosts_185 : decode cX10_pathCosts 185 = .ok (.iadd, 1) := by decide +kernel
theorem dX10_pathCosts_186 : decode cX10_pathCosts 186 = .ok (.iaload, 1) := by decide +kernel
theorem dX10_pathCosts_187 : decode cX10_pathCosts 187 = .ok (.iadd, 1) := by decide +kernel
theorem dX10_pathCosts_188 : decode cX10_pathCosts 188 = .ok (.invokestatic 223, 3) := by decide +kernel
theorem dX10_pathCosts_191 : decode cX10_pathCosts 191 = .ok (.istore 5, 2) := by decide +kernel
theorem dX10_pathCosts_193 : decode cX10_pathCosts 193 = .ok (.aload_n 0, 1) := by decide +kernel
theorem dX10_pathCosts_194 : decode cX10_pathCosts 194 = .ok (.getfield 33, 3) := by decide +kernel
theorem dX10_pathCosts_197 : decode cX10_pathCosts 197 = .ok (.bipush 21, 2) := by decide +kernel
theorem dX10_pathCosts_199 : decode cX10_pathCosts 199 = .ok (.iload_n 3, 1) := by decide +kernel
theorem dX10_pathCosts_200 : decode cX10_pathCosts 200 = .ok (.imul, 1) := by decide +kernel
theorem dX10_pathCosts_201 : decode cX10_pathCosts 201 = .ok (.iload 4, 2) := by decide +kernel
theorem dX10_pathCosts_203 : decode cX10_pathCosts 203 = .ok (.iadd, 1) := by decide +kernel
theorem dX10_pathCosts_204 : decode cX10_pathCosts 204 = .ok (.iload 5, 2) := by decide +kernel
theorem dX10_pathCosts_206 : decode cX10_pathCosts 206 = .ok (.iastore, 1) := by decide +kernel
theorem dX10_pathCosts_207 : decode cX10_pathCosts 207 = .ok (.iinc 4 (-1), 3) := by decide +kernel
theorem dX10_pathCosts_210 : decode cX10_pathCosts 210 = .ok (.goto (-191), 3) := by decide +kernel
theorem dX10_pathCosts_213 : decode cX10_pathCosts 213 = .ok (.iinc 3 (-1), 3) := by decide +kernel
theorem dX10_pathCosts_216 : decode cX10_pathCosts 216 = .ok (.goto (-209), 3) := by decide +kernel
theorem dX10_pathCosts_219 : decode cX10_pathCosts 219 = .ok (.aload_n 0, 1) := by decide +kernel
theorem dX10_pathCosts_220 : decode cX10_pathCosts 220 = .ok (.getfield 33, 3) := by decide +kernel
theorem dX10_pathCosts_223 : decode cX10_pathCosts 223 = .ok (.iconst 0, 1) := by decide +kernel
theorem dX10_pathCosts_224 : decode cX10_pathCosts 224 = .ok (.iaload, 1) := by decide +kernel
theorem dX10_pathCosts_225 : decode cX10_pathCosts 225 = .ok (.ireturn, 1) := by decide +kernel
theorem dX10_copiesRow_0 : decode cX10_copiesRow 0 = .ok (.aload_n 0, 1) := by decide +kernel
theorem dX10_copiesRow_1 : decode cX10_copiesRow 1 = .ok (.getfield 21, 3) := by decide +kernel
theorem dX10_copiesRow_4 : decode cX10_copiesRow 4 = .ok (.iload_n 2, 1) := by decide +kernel
theorem dX10_copiesRow_5 : decode cX10_copiesRow 5 = .ok (.aload_n 0, 1) := by decide +kernel
theorem dX10_copiesRow_6 : decode cX10_copiesRow 6 = .ok (.getfield 21, 3) := by decide +kernel
theorem dX10_copiesRow_9 : decode cX10_copiesRow 9 = .ok (.iload_n 1, 1) := by decide +kernel
theorem dX10_copiesRow_10 : decode cX10_copiesRow 10 = .ok (.iaload, 1) := by decide +kernel
theorem dX10_copiesRow_11 : decode cX10_copiesRow 11 = .ok (.iastore, 1) := by decide +kernel
theorem dX10_copiesRow_12 : decode cX10_copiesRow 12 = .ok (.aload_n 0, 1) := by decide +kernel
theorem dX10_copiesRow_13 : decode cX10_copiesRow 13 = .ok (.getfield 24, 3) := by decide +kernel
theorem dX10_copiesRow_16 : decode cX10_copiesRow 16 = .ok (.iload_n 2, 1) := by decide +kernel
theorem dX10_copiesRow_17 : decode cX10_copiesRow 17 = .ok (.aload_n 0, 1) := by decide +kernel
theorem dX10_copiesRow_18 : decode cX10_copiesRow 18 = .ok (.getfield 24, 3) := by decide +kernel
theorem dX10_copiesRow_21 : decode cX10_copiesRow 21 = .ok (.iload_n 1, 1) := by decide +kernel
theorem dX10_copiesRow_22 : decode cX10_copiesRow 22 = .ok (.iaload, 1) := by decide +kernel
theorem dX10_copiesRow_23 : decode cX10_copiesRow 23 = .ok (.iastore, 1) := by decide +kernel
theorem dX10_copiesRow_24 : decode cX10_copiesRow 24 = .ok (.iconst 0, 1) := by decide +kernel
theorem dX10_copiesRow_25 : decode cX10_copiesRow 25 = .ok (.istore_n 3, 1) := by decide +kernel
theorem dX10_copiesRow_26 : decode cX10_copiesRow 26 = .ok (.iload_n 3, 1) := by decide +kernel
theorem dX10_copiesRow_27 : decode cX10_copiesRow 27 = .ok (.bipush 20, 2) := by decide +kernel
theorem dX10_copiesRow_29 : decode cX10_copiesRow 29 = .ok (.if_icmp .ge 25, 3) := by decide +kernel
theorem dX10_copiesRow_32 : decode cX10_copiesRow 32 = .ok (.aload_n 0, 1) := by decide +kernel
theorem dX10_copiesRow_33 : decode cX10_copiesRow 33 = .ok (.bipush 20, 2) := by decide +kernel
theorem dX10_copiesRow_35 : decode cX10_copiesRow 35 = .ok (.iload_n 1, 1) := by decide +kernel
theorem dX10_copiesRow_36 : decode cX10_copiesRow 36 = .ok (.imul, 1) := by decide +kernel
theorem dX10_copiesRow_37 : decode cX10_copiesRow 37 = .ok (.iload_n 3, 1) := by decide +kernel
theorem dX10_copiesRow_38 : decode cX10_copiesRow 38 = .ok (.iadd, 1) := by decide +kernel
theorem dX10_copiesRow_39 : decode cX10_copiesRow 39 = .ok (.bipush 20, 2) := by decide +kernel
theorem dX10_copiesRow_41 : decode cX10_copiesRow 41 = .ok (.iload_n 2, 1) := by decide +kernel
theorem dX10_copiesRow_42 : decode cX10_copiesRow 42 = .ok (.imul, 1) := by decide +kernel
theorem dX10_copiesRow_43 : decode cX10_copiesRow 43 = .ok (.iload_n 3, 1) := by decide +kernel
theorem dX10_copiesRow_44 : decode cX10_copiesRow 44 = .ok (.iadd, 1) := by decide +kernel
theorem dX10_copiesRow_45 : decode cX10_copiesRow 45 = .ok (.invokevirtual 229, 3) := by decide +kernel
theorem dX10_copiesRow_48 : decode cX10_copiesRow 48 = .ok (.iinc 3 1, 3) := by decide +kernel
theorem dX10_copiesRow_51 : decode cX10_copiesRow 51 = .ok (.goto (-25), 3) := by decide +kernel
theorem dX10_copiesRow_54 : decode cX10_copiesRow 54 = .ok (.return_, 1) := by decide +kernel
theorem dX10_copiesCell_0 : decode cX10_copiesCell 0 = .ok (.aload_n 0, 1) := by decide +kernel
theorem dX10_copiesCell_1 : decode cX10_copiesCell 1 = .ok (.iload_n 2, 1) := by decide +kernel
theorem dX10_copiesCell_2 : decode cX10_copiesCell 2 = .ok (.aload_n 0, 1) := by decide +kernel
theorem dX10_copiesCell_3 : decode cX10_copiesCell 3 = .ok (.getfield 7, 3) := by decide +kernel
theorem dX10_copiesCell_6 : decode cX10_copiesCell 6 = .ok (.iload_n 1, 1) := by decide +kernel
theorem dX10_copiesCell_7 : decode cX10_copiesCell 7 = .ok (.iaload, 1) := by decide +kernel
theorem dX10_copiesCell_8 : decode cX10_copiesCell 8 = .ok (.aload_n 0, 1) := by decide +kernel
theorem dX10_copiesCell_9 : decode cX10_copiesCell 9 = .ok (.getfield 13, 3) := by decide +kernel
theorem dX10_copiesCell_12 : decode cX10_copiesCell 12 = .ok (.iload_n 1, 1) := by decide +kernel
theorem dX10_copiesCell_13 : decode cX10_copiesCell 13 = .ok (.laload, 1) := by decide +kernel
theorem dX10_copiesCell_14 : decode cX10_copiesCell 14 = .ok (.aload_n 0, 1) := by decide +kernel
theorem dX10_copiesCell_15 : decode cX10_copiesCell 15 = .ok (.getfield 17, 3) := by decide +kernel
theorem dX10_copiesCell_18 : decode cX10_copiesCell 18 = .ok (.iload_n 1, 1) := by decide +kernel
theorem dX10_copiesCell_19 : decode cX10_copiesCell 19 = .ok (.daload, 1) := by decide +kernel
theorem dX10_copiesCell_20 : decode cX10_copiesCell 20 = .ok (.invokevirtual 84, 3) := by decide +kernel
theorem dX10_copiesCell_23 : decode cX10_copiesCell 23 = .ok (.return_, 1) := by decide +kernel
theorem dX10_goesStep_0 : decode cX10_goesStep 0 = .ok (.aload_n 0, 1) := by decide +kernel
theorem dX10_goesStep_1 : decode cX10_goesStep 1 = .ok (.getfield 36, 3) := by decide +kernel
theorem dX10_goesStep_4 : decode cX10_goesStep 4 = .ok (.aload_n 0, 1) := by decide +kernel
theorem dX10_goesStep_5 : decode cX10_goesStep 5 = .ok (.getfield 233, 3) := by decide +kernel
theorem dX10_goesStep_8 : decode cX10_goesStep 8 = .ok (.iload_n 1, 1) := by decide +kernel
theorem dX10_goesStep_9 : decode cX10_goesStep 9 = .ok (.iastore, 1) := by decide +kernel
theorem dX10_goesStep_10 : decode cX10_goesStep 10 = .ok (.aload_n 0, 1) := by decide +kernel
theorem dX10_goesStep_11 : decode cX10_goesStep 11 = .ok (.getfield 39, 3) := by decide +kernel
theorem dX10_goesStep_14 : decode cX10_goesStep 14 = .ok (.aload_n 0, 1) := by decide +kernel
theorem dX10_goesStep_15 : decode cX10_goesStep 15 = .ok (.getfield 233, 3) := by decide +kernel
theorem dX10_goesStep_18 : decode cX10_goesStep 18 = .ok (.iload_n 2, 1) := by decide +kernel
theorem dX10_goesStep_19 : decode cX10_goesStep 19 = .ok (.iastore, 1) := by decide +kernel
theorem dX10_goesStep_20 : decode cX10_goesStep 20 = .ok (.aload_n 0, 1) := by decide +kernel
theorem dX10_goesStep_21 : decode cX10_goesStep 21 = .ok (.getfield 42, 3) := by decide +kernel
theorem dX10_goesStep_24 : decode cX10_goesStep 24 = .ok (.aload_n 0, 1) := by decide +kernel
theorem dX10_goesStep_25 : decode cX10_goesStep 25 = .ok (.getfield 233, 3) := by decide +kernel
theorem dX10_goesStep_28 : decode cX10_goesStep 28 = .ok (.iload_n 3, 1) := by decide +kernel
theorem dX10_goesStep_29 : decode cX10_goesStep 29 = .ok (.iastore, 1) := by decide +kernel
theorem dX10_goesStep_30 : decode cX10_goesStep 30 = .ok (.aload_n 0, 1) := by decide +kernel
theorem dX10_goesStep_31 : decode cX10_goesStep 31 = .ok (.getfield 45, 3) := by decide +kernel
theorem dX10_goesStep_34 : decode cX10_goesStep 34 = .ok (.aload_n 0, 1) := by decide +kernel
theorem dX10_goesStep_35 : decode cX10_goesStep 35 = .ok (.getfield 233, 3) := by decide +kernel
theorem dX10_goesStep_38 : decode cX10_goesStep 38 = .ok (.iload 4, 2) := by decide +kernel
theorem dX10_goesStep_40 : decode cX10_goesStep 40 = .ok (.iastore, 1) := by decide +kernel
theorem dX10_goesStep_41 : decode cX10_goesStep 41 = .ok (.aload_n 0, 1) := by decide +kernel
theorem dX10_goesStep_42 : decode cX10_goesStep 42 = .ok (.getfield 48, 3) := by decide +kernel
theorem dX10_goesStep_45 : decode cX10_goesStep 45 = .ok (.aload_n 0, 1) := by decide +kernel
theorem dX10_goesStep_46 : decode cX10_goesStep 46 = .ok (.getfield 233, 3) := by decide +kernel
theorem dX10_goesStep_49 : decode cX10_goesStep 49 = .ok (.iload 5, 2) := by decide +kernel
theorem dX10_goesStep_51 : decode cX10_goesStep 51 = .ok (.bastore, 1) := by decide +kernel
theorem dX10_goesStep_52 : decode cX10_goesStep 52 = .ok (.aload_n 0, 1) := by decide +kernel
theorem dX10_goesStep_53 : decode cX10_goesStep 53 = .ok (.dup, 1) := by decide +kernel
theorem dX10_goesStep_54 : decode cX10_goesStep 54 = .ok (.getfield 233, 3) := by decide +kernel
theorem dX10_goesStep_57 : decode cX10_goesStep 57 = .ok (.iconst 1, 1) := by decide +kernel
theorem dX10_goesStep_58 : decode cX10_goesStep 58 = .ok (.iadd, 1) := by decide +kernel
theorem dX10_goesStep_59 : decode cX10_goesStep 59 = .ok (.putfield 233, 3) := by decide +kernel
theorem dX10_goesStep_62 : decode cX10_goesStep 62 = .ok (.return_, 1) := by decide +kernel
theorem dX10_findSteps_0 : decode cX10_findSteps 0 = .ok (.aload_n 0, 1) := by decide +kernel
theorem dX10_findSteps_1 : decode cX10_findSteps 1 = .ok (.iconst 0, 1) := by decide +kernel
theorem dX10_findSteps_2 : decode cX10_findSteps 2 = .ok (.putfield 233, 3) := by decide +kernel
theorem dX10_findSteps_5 : decode cX10_findSteps 5 = .ok (.iconst 0, 1) := by decide +kernel
theorem dX10_findSteps_6 : decode cX10_findSteps 6 = .ok (.istore_n 1, 1) := by decide +kernel
theorem dX10_findSteps_7 : decode cX10_findSteps 7 = .ok (.iconst 0, 1) := by decide +kernel
theorem dX10_findSteps_8 : decode cX10_findSteps 8 = .ok (.istore_n 2, 1) := by decide +kernel
theorem dX10_findSteps_9 : decode cX10_findSteps 9 = .ok (.iload_n 1, 1) := by decide +kernel
theorem dX10_findSteps_10 : decode cX10_findSteps 10 = .ok (.aload_n 0, 1) := by decide +kernel
theorem dX10_findSteps_11 : decode cX10_findSteps 11 = .ok (.getfield 24, 3) := by decide +kernel
theorem dX10_findSteps_14 : decode cX10_findSteps 14 = .ok (.bipush 24, 2) := by decide +kernel
theorem dX10_findSteps_16 : decode cX10_findSteps 16 = .ok (.iaload, 1) := by decide +kernel
theorem dX10_findSteps_17 : decode cX10_findSteps 17 = .ok (.if_icmp .lt 14, 3) := by decide +kernel
theorem dX10_findSteps_20 : decode cX10_findSteps 20 = .ok (.iload_n 2, 1) := by decide +kernel
theorem dX10_findSteps_21 : decode cX10_findSteps 21 = .ok (.aload_n 0, 1) := by decide +kernel
theorem dX10_findSteps_22 : decode cX10_findSteps 22 = .ok (.getfield 24, 3) := by decide +kernel
theorem dX10_findSteps_25 : decode cX10_findSteps 25 = .ok (.bipush 25, 2) := by decide +kernel
theorem dX10_findSteps_27 : decode cX10_findSteps 27 = .ok (.iaload, 1) := by decide +kernel
theorem dX10_findSteps_28 : decode cX10_findSteps 28 = .ok (.if_icmp .ge 196, 3) := by decide +kernel
theorem dX10_findSteps_31 : decode cX10_findSteps 31 = .ok (.aload_n 0, 1) := by decide +kernel
theorem dX10_findSteps_32 : decode cX10_findSteps 32 = .ok (.getfield 33, 3) := by decide +kernel
theorem dX10_findSteps_35 : decode cX10_findSteps 35 = .ok (.bipush 21, 2) := by decide +kernel
theorem dX10_findSteps_37 : decode cX10_findSteps 37 = .ok (.iload_n 1, 1) := by decide +kernel
theorem dX10_findSteps_38 : decode cX10_findSteps 38 = .ok (.imul, 1) := by decide +kernel
theorem dX10_findSteps_39 : decode cX10_findSteps 39 = .ok (.iload_n 2, 1) := by decide +kernel
theorem dX10_findSteps_40 : decode cX10_findSteps 40 = .ok (.iadd, 1) := by decide +kernel
theorem dX10_findSteps_41 : decode cX10_findSteps 41 = .ok (.iaload, 1) := by decide +kernel
theorem dX10_findSteps_42 : decode cX10_findSteps 42 = .ok (.istore_n 3, 1) := by decide +kernel
theorem dX10_findSteps_43 : decode cX10_findSteps 43 = .ok (.iload_n 1, 1) := by decide +kernel
theorem dX10_findSteps_44 : decode cX10_findSteps 44 = .ok (.aload_n 0, 1) := by decide +kernel
theorem dX10_findSteps_45 : decode cX10_findSteps 45 = .ok (.getfield 24, 3) := by decide +kernel
theorem dX10_findSteps_48 : decode cX10_findSteps 48 = .ok (.bipush 24, 2) := by decide +kernel
theorem dX10_findSteps_50 : decode cX10_findSteps 50 = .ok (.iaload, 1) := by decide +kernel
theorem dX10_findSteps_51 : decode cX10_findSteps 51 = .ok (.if_icmp .ge 31, 3) := by decide +kernel
theorem dX10_findSteps_54 : decode cX10_findSteps 54 = .ok (.iload_n 2, 1) := by decide +kernel
theorem dX10_findSteps_55 : decode cX10_findSteps 55 = .ok (.aload_n 0, 1) := by decide +kernel
theorem dX10_findSteps_56 : decode cX10_findSteps 56 = .ok (.getfield 24, 3) := by decide +kernel
theorem dX10_findSteps_59 : decode cX10_findSteps 59 = .ok (.bipush 25, 2) := by decide +kernel
theorem dX10_findSteps_61 : decode cX10_findSteps 61 = .ok (.iaload, 1) := by decide +kernel
theorem dX10_findSteps_62 : decode cX10_findSteps 62 = .ok (.if_icmp .ge 20, 3) := by decide +kernel
theorem dX10_findSteps_65 : decode cX10_findSteps 65 = .ok (.aload_n 0, 1) := by decide +kernel
theorem dX10_findSteps_66 : decode cX10_findSteps 66 = .ok (.sipush 480, 3) := by decide +kernel
theorem dX10_findSteps_69 : decode cX10_findSteps 69 = .ok (.iload_n 1, 1) := by decide +kernel
theorem dX10_findSteps_70 : decode cX10_findSteps 70 = .ok (.iadd, 1) := by decide +kernel
theorem dX10_findSteps_71 : decode cX10_findSteps 71 = .ok (.sipush 500, 3) := by decide +kernel
theorem dX10_findSteps_74 : decode cX10_findSteps 74 = .ok (.iload_n 2, 1) := by decide +kernel
theorem dX10_findSteps_75 : decode cX10_findSteps 75 = .ok (.iadd, 1) := by decide +kernel
theorem dX10_findSteps_76 : decode cX10_findSteps 76 = .ok (.invokevirtual 226, 3) := by decide +kernel
theorem dX10_findSteps_79 : decode cX10_findSteps 79 = .ok (.goto 5, 3) := by decide +kernel
theorem dX10_findSteps_82 : decode cX10_findSteps 82 = .ok (.bipush (-4), 2) := by decide +kernel
theorem dX10_findSteps_84 : decode cX10_findSteps 84 = .ok (.istore 4, 2) := by decide +kernel
theorem dX10_findSteps_86 : decode cX10_findSteps 86 = .ok (.iload 4, 2) := by decide +kernel
theorem dX10_findSteps_88 : decode cX10_findSteps 88 = .ok (.ifCond .lt 43, 3) := by decide +kernel
theorem dX10_findSteps_91 : decode cX10_findSteps 91 = .ok (.iload 4, 2) := by decide +kernel
theorem dX10_findSteps_93 : decode cX10_findSteps 93 = .ok (.aload_n 0, 1) := by decide +kernel
theorem dX10_findSteps_94 : decode cX10_findSteps 94 = .ok (.getfield 33, 3) := by decide +kernel
theorem dX10_findSteps_97 : decode cX10_findSteps 97 = .ok (.bipush 21, 2) := by decide +kernel
theorem dX10_findSteps_99 : decode cX10_findSteps 99 = .ok (.iload_n 1, 1) := by decide +kernel
theorem dX10_findSteps_100 : decode cX10_findSteps 100 = .ok (.imul, 1) := by decide +kernel
theorem dX10_findSteps_101 : decode cX10_findSteps 101 = .ok (.bipush 22, 2) := by decide +kernel
theorem dX10_findSteps_103 : decode cX10_findSteps 103 = .ok (.iadd, 1) := by decide +kernel
theorem dX10_findSteps_104 : decode cX10_findSteps 104 = .ok (.iload_n 2, 1) := by decide +kernel
theorem dX10_findSteps_105 : decode cX10_findSteps 105 = .ok (.iadd, 1) := by decide +kernel
theorem dX10_findSteps_106 : decode cX10_findSteps 106 = .ok (.iaload, 1) := by decide +kernel
theorem dX10_findSteps_107 : decode cX10_findSteps 107 = .ok (.iadd, 1) := by decide +kernel
theorem dX10_findSteps_108 : decode cX10_findSteps 108 = .ok (.iload_n 3, 1) := by decide +kernel
theorem dX10_findSteps_109 : decode cX10_findSteps 109 = .ok (.if_icmp .ne 22, 3) := by decide +kernel
theorem dX10_findSteps_112 : decode cX10_findSteps 112 = .ok (.aload_n 0, 1) := by decide +kernel
theorem dX10_findSteps_113 : decode cX10_findSteps 113 = .ok (.iconst 0, 1) := by decide +kernel
theorem dX10_findSteps_114 : decode cX10_findSteps 114 = .ok (.iload_n 1, 1) := by decide +kernel
theorem dX10_findSteps_115 : decode cX10_findSteps 115 = .ok (.iload_n 2, 1) := by decide +kernel
theorem dX10_findSteps_116 : decode cX10_findSteps 116 = .ok (.iload 4, 2) := by decide +kernel
theorem dX10_findSteps_118 : decode cX10_findSteps 118 = .ok (.iconst 0, 1) := by decide +kernel
theorem dX10_findSteps_119 : decode cX10_findSteps 119 = .ok (.invokevirtual 236, 3) := by decide +kernel
theorem dX10_findSteps_122 : decode cX10_findSteps 122 = .ok (.iinc 1 1, 3) := by decide +kernel
theorem dX10_findSteps_125 : decode cX10_findSteps 125 = .ok (.iinc 2 1, 3) := by decide +kernel
theorem dX10_findSteps_128 : decode cX10_findSteps 128 = .ok (.goto 93, 3) := by decide +kernel
theorem dX10_findSteps_131 : decode cX10_findSteps 131 = .ok (.iload_n 1, 1) := by decide +kernel
theorem dX10_findSteps_132 : decode cX10_findSteps 132 = .ok (.aload_n 0, 1) := by decide +kernel
theorem dX10_findSteps_133 : decode cX10_findSteps 133 = .ok (.getfield 24, 3) := by decide +kernel
theorem dX10_findSteps_136 : decode cX10_findSteps 136 = .ok (.bipush 24, 2) := by decide +kernel
theorem dX10_findSteps_138 : decode cX10_findSteps 138 = .ok (.iaload, 1) := by decide +kernel
theorem dX10_findSteps_139 : decode cX10_findSteps 139 = .ok (.if_icmp .ge 57, 3) := by decide +kernel
theorem dX10_findSteps_142 : decode cX10_findSteps 142 = .ok (.aload_n 0, 1) := by decide +kernel
theorem dX10_findSteps_143 : decode cX10_findSteps 143 = .ok (.bipush 24, 2) := by decide +kernel
theorem dX10_findSteps_145 : decode cX10_findSteps 145 = .ok (.iload_n 1, 1) := by decide +kernel
theorem dX10_findSteps_146 : decode cX10_findSteps 146 = .ok (.invokevirtual 220, 3) := by decide +kernel
theorem dX10_findSteps_149 : decode cX10_findSteps 149 = .ok (.aload_n 0, 1) := by decide +kernel
theorem dX10_findSteps_150 : decode cX10_findSteps 150 = .ok (.getfield 33, 3) := by decide +kernel
theorem dX10_findSteps_153 : decode cX10_findSteps 153 = .ok (.bipush 21, 2) := by decide +kernel
theorem dX10_findSteps_155 : decode cX10_findSteps 155 = .ok (.iload_n 1, 1) := by decide +kernel
theorem dX10_findSteps_156 : decode cX10_findSteps 156 = .ok (.imul, 1) := by decide +kernel
theorem dX10_findSteps_157 : decode cX10_findSteps 157 = .ok (.bipush 21, 2) := by decide +kernel
theorem dX10_findSteps_159 : decode cX10_findSteps 159 = .ok (.iadd, 1) := by decide +kernel
theorem dX10_findSteps_160 : decode cX10_findSteps 160 = .ok (.iload_n 2, 1) := by decide +kernel
theorem dX10_findSteps_161 : decode cX10_findSteps 161 = .ok (.iadd, 1) := by decide +kernel
theorem dX10_findSteps_162 : decode cX10_findSteps 162 = .ok (.iaload, 1) := by decide +kernel
theorem dX10_findSteps_163 : decode cX10_findSteps 163 = .ok (.iadd, 1) := by decide +kernel
theorem dX10_findSteps_164 : decode cX10_findSteps 164 = .ok (.iload_n 3, 1) := by decide +kernel
theorem dX10_findSteps_165 : decode cX10_findSteps 165 = .ok (.if_icmp .ne 31, 3) := by decide +kernel
theorem dX10_findSteps_168 : decode cX10_findSteps 168 = .ok (.aload_n 0, 1) := by decide +kernel
theorem dX10_findSteps_169 : decode cX10_findSteps 169 = .ok (.iconst 1, 1) := by decide +kernel
theorem dX10_findSteps_170 : decode cX10_findSteps 170 = .ok (.iload_n 1, 1) := by decide +kernel
theorem dX10_findSteps_171 : decode cX10_findSteps 171 = .ok (.bipush (-4), 2) := by decide +kernel
theorem dX10_findSteps_173 : decode cX10_findSteps 173 = .ok (.aload_n 0, 1) := by decide +kernel
theorem dX10_findSteps_174 : decode cX10_findSteps 174 = .ok (.bipush 24, 2) := by decide +kernel
theorem dX10_findSteps_176 : decode cX10_findSteps 176 = .ok (.iload_n 1, 1) := by decide +kernel
theorem dX10_findSteps_177 : decode cX10_findSteps 177 = .ok (.invokevirtual 220, 3) := by decide +kernel
theorem dX10_findSteps_180 : decode cX10_findSteps 180 = .ok (.aload_n 0, 1) := by decide +kernel
theorem dX10_findSteps_181 : decode cX10_findSteps 181 = .ok (.bipush 24, 2) := by decide +kernel
theorem dX10_findSteps_183 : decode cX10_findSteps 183 = .ok (.iload_n 1, 1) := by decide +kernel
theorem dX10_findSteps_184 : decode cX10_findSteps 184 = .ok (.invokevirtual 216, 3) := by decide +kernel
theorem dX10_findSteps_187 : decode cX10_findSteps 187 = .ok (.invokevirtual 236, 3) := by decide +kernel
theorem dX10_findSteps_190 : decode cX10_findSteps 190 = .ok (.iinc 1 1, 3) := by decide +kernel
theorem dX10_findSteps_193 : decode cX10_findSteps 193 = .ok (.goto 28, 3) := by decide +kernel
theorem dX10_findSteps_196 : decode cX10_findSteps 196 = .ok (.aload_n 0, 1) := by decide +kernel
theorem dX10_findSteps_197 : decode cX10_findSteps 197 = .ok (.iconst 2, 1) := by decide +kernel
theorem dX10_findSteps_198 : decode cX10_findSteps 198 = .ok (.bipush (-4), 2) := by decide +kernel
theorem dX10_findSteps_200 : decode cX10_findSteps 200 = .ok (.iload_n 2, 1) := by decide +kernel
theorem dX10_findSteps_201 : decode cX10_findSteps 201 = .ok (.aload_n 0, 1) := by decide +kernel
theorem dX10_findSteps_202 : decode cX10_findSteps 202 = .ok (.bipush 25, 2) := by decide +kernel
theorem dX10_findSteps_204 : decode cX10_findSteps 204 = .ok (.iload_n 2, 1) := by decide +kernel
theorem dX10_findSteps_205 : decode cX10_findSteps 205 = .ok (.invokevirtual 220, 3) := by decide +kernel
theorem dX10_findSteps_208 : decode cX10_findSteps 208 = .ok (.aload_n 0, 1) := by decide +kernel
theorem dX10_findSteps_209 : decode cX10_findSteps 209 = .ok (.bipush 25, 2) := by decide +kernel
theorem dX10_findSteps_211 : decode cX10_findSteps 211 = .ok (.iload_n 2, 1) := by decide +kernel
theorem dX10_findSteps_212 : decode cX10_findSteps 212 = .ok (.invokevirtual 216, 3) := by decide +kernel
theorem dX10_findSteps_215 : decode cX10_findSteps 215 = .ok (.invokevirtual 236, 3) := by decide +kernel
theorem dX10_findSteps_218 : decode cX10_findSteps 218 = .ok (.iinc 2 1, 3) := by decide +kernel
theorem dX10_findSteps_221 : decode cX10_findSteps 221 = .ok (.goto (-212), 3) := by decide +kernel
theorem dX10_findSteps_224 : decode cX10_findSteps 224 = .ok (.return_, 1) := by decide +kernel
theorem dX10_rowsFault_0 : decode cX10_rowsFault 0 = .ok (.aload_n 0, 1) := by decide +kernel
theorem dX10_rowsFault_1 : decode cX10_rowsFault 1 = .ok (.iload_n 1, 1) := by decide +kernel
theorem dX10_rowsFault_2 : decode cX10_rowsFault 2 = .ok (.invokevirtual 124, 3) := by decide +kernel
theorem dX10_rowsFault_5 : decode cX10_rowsFault 5 = .ok (.ifCond .le 11, 3) := by decide +kernel
theorem dX10_rowsFault_8 : decode cX10_rowsFault 8 = .ok (.aload_n 0, 1) := by decide +kernel
theorem dX10_rowsFault_9 : decode cX10_rowsFault 9 = .ok (.iload_n 1, 1) := by decide +kernel
theorem dX10_rowsFault_10 : decode cX10_rowsFault 10 = .ok (.invokevirtual 124, 3) := by decide +kernel
theorem dX10_rowsFault_13 : decode cX10_rowsFault 13 = .ok (.goto 8, 3) := by decide +kernel
theorem dX10_rowsFault_16 : decode cX10_rowsFault 16 = .ok (.aload_n 0, 1) := by decide +kernel
theorem dX10_rowsFault_17 : decode cX10_rowsFault 17 = .ok (.iload_n 2, 1) := by decide +kernel
theorem dX10_rowsFault_18 : decode cX10_rowsFault 18 = .ok (.invokevirtual 124, 3) := by decide +kernel
theorem dX10_rowsFault_21 : decode cX10_rowsFault 21 = .ok (.ireturn, 1) := by decide +kernel
theorem dX10_compare_0 : decode cX10_compare 0 = .ok (.iload_n 1, 1) := by decide +kernel
theorem dX10_compare_1 : decode cX10_compare 1 = .ok (.invokestatic 141, 3) := by decide +kernel
theorem dX10_compare_4 : decode cX10_compare 4 = .ok (.ifCond .eq 10, 3) := by decide +kernel
theorem dX10_compare_7 : decode cX10_compare 7 = .ok (.iload_n 2, 1) := by decide +kernel
theorem dX10_compare_8 : decode cX10_compare 8 = .ok (.invokestatic 141, 3) := by decide +kernel
theorem dX10_compare_11 : decode cX10_compare 11 = .ok (.ifCond .ne 5, 3) := by decide +kernel
theorem dX10_compare_14 : decode cX10_compare 14 = .ok (.iconst (-1), 1) := by decide +kernel
theorem dX10_compare_15 : decode cX10_compare 15 = .ok (.ireturn, 1) := by decide +kernel
theorem dX10_compare_16 : decode cX10_compare 16 = .ok (.aload_n 0, 1) := by decide +kernel
theorem dX10_compare_17 : decode cX10_compare 17 = .ok (.iload_n 1, 1) := by decide +kernel
theorem dX10_compare_18 : decode cX10_compare 18 = .ok (.iload_n 2, 1) := by decide +kernel
theorem dX10_compare_19 : decode cX10_compare 19 = .ok (.invokevirtual 240, 3) := by decide +kernel
theorem dX10_compare_22 : decode cX10_compare 22 = .ok (.ifCond .le 13, 3) := by decide +kernel
theorem dX10_compare_25 : decode cX10_compare 25 = .ok (.bipush (-10), 2) := by decide +kernel
theorem dX10_compare_27 : decode cX10_compare 27 = .ok (.aload_n 0, 1) := by decide +kernel
theorem dX10_compare_28 : decode cX10_compare 28 = .ok (.iload_n 1, 1) := by decide +kernel
theorem dX10_compare_29 : decode cX10_compare 29 = .ok (.iload_n 2, 1) := by decide +kernel
theorem dX10_compare_30 : decode cX10_compare 30 = .ok (.invokevirtual 240, 3) := by decide +kernel
theorem dX10_compare_33 : decode cX10_compare 33 = .ok (.isub, 1) := by decide +kernel
theorem dX10_compare_34 : decode cX10_compare 34 = .ok (.ireturn, 1) := by decide +kernel
theorem dX10_compare_35 : decode cX10_compare 35 = .ok (.aload_n 0, 1) := by decide +kernel
theorem dX10_compare_36 : decode cX10_compare 36 = .ok (.aload_n 0, 1) := by decide +kernel
theorem dX10_compare_37 : decode cX10_compare 37 = .ok (.getfield 27, 3) := by decide +kernel
theorem dX10_compare_40 : decode cX10_compare 40 = .ok (.iload_n 1, 1) := by decide +kernel
theorem dX10_compare_41 : decode cX10_compare 41 = .ok (.iaload, 1) := by decide +kernel
theorem dX10_compare_42 : decode cX10_compare 42 = .ok (.bipush 24, 2) := by decide +kernel
theorem dX10_compare_44 : decode cX10_compare 44 = .ok (.invokevirtual 243, 3) := by decide +kernel
theorem dX10_compare_47 : decode cX10_compare 47 = .ok (.aload_n 0, 1) := by decide +kernel
theorem dX10_compare_48 : decode cX10_compare 48 = .ok (.aload_n 0, 1) := by decide +kernel
theorem dX10_compare_49 : decode cX10_compare 49 = .ok (.getfield 27, 3) := by decide +kernel
theorem dX10_compare_52 : decode cX10_compare 52 = .ok (.iload_n 2, 1) := by decide +kernel
theorem dX10_compare_53 : decode cX10_compare 53 = .ok (.iaload, 1) := by decide +kernel
theorem dX10_compare_54 : decode cX10_compare 54 = .ok (.bipush 25, 2) := by decide +kernel
theorem dX10_compare_56 : decode cX10_compare 56 = .ok (.invokevirtual 243, 3) := by decide +kernel
theorem dX10_compare_59 : decode cX10_compare 59 = .ok (.aload_n 0, 1) := by decide +kernel
theorem dX10_compare_60 : decode cX10_compare 60 = .ok (.aload_n 0, 1) := by decide +kernel
theorem dX10_compare_61 : decode cX10_compare 61 = .ok (.bipush 24, 2) := by decide +kernel
theorem dX10_compare_63 : decode cX10_compare 63 = .ok (.bipush 25, 2) := by decide +kernel
theorem dX10_compare_65 : decode cX10_compare 65 = .ok (.invokevirtual 246, 3) := by decide +kernel
theorem dX10_compare_68 : decode cX10_compare 68 = .ok (.putfield 249, 3) := by decide +kernel
theorem dX10_compare_71 : decode cX10_compare 71 = .ok (.aload_n 0, 1) := by decide +kernel
theorem dX10_compare_72 : decode cX10_compare 72 = .ok (.invokevirtual 252, 3) := by decide +kernel
theorem dX10_compare_75 : decode cX10_compare 75 = .ok (.aload_n 0, 1) := by decide +kernel
theorem dX10_compare_76 : decode cX10_compare 76 = .ok (.invokevirtual 255, 3) := by decide +kernel
theorem dX10_compare_79 : decode cX10_compare 79 = .ok (.aload_n 0, 1) := by decide +kernel
theorem dX10_compare_80 : decode cX10_compare 80 = .ok (.iconst 1, 1) := by decide +kernel
theorem dX10_compare_81 : decode cX10_compare 81 = .ok (.putfield 258, 3) := by decide +kernel
theorem dX10_compare_84 : decode cX10_compare 84 = .ok (.aload_n 0, 1) := by decide +kernel
theorem dX10_compare_85 : decode cX10_compare 85 = .ok (.getfield 249, 3) := by decide +kernel
theorem dX10_compare_88 : decode cX10_compare 88 = .ok (.ireturn, 1) := by decide +kernel
theorem dX10_besides_0 : decode cX10_besides 0 = .ok (.iconst 0, 1) := by decide +kernel
theorem dX10_besides_1 : decode cX10_besides 1 = .ok (.istore_n 2, 1) := by decide +kernel
theorem dX10_besides_2 : decode cX10_besides 2 = .ok (.iconst 0, 1) := by decide +kernel
theorem dX10_besides_3 : decode cX10_besides 3 = .ok (.istore_n 3, 1) := by decide +kernel
theorem dX10_besides_4 : decode cX10_besides 4 = .ok (.iload_n 3, 1) := by decide +kernel
theorem dX10_besides_5 : decode cX10_besides 5 = .ok (.aload_n 0, 1) := by decide +kernel
theorem dX10_besides_6 : decode cX10_besides 6 = .ok (.getfield 233, 3) := by decide +kernel
theorem dX10_besides_9 : decode cX10_besides 9 = .ok (.if_icmp .ge 38, 3) := by decide +kernel
theorem dX10_besides_12 : decode cX10_besides 12 = .ok (.iload_n 2, 1) := by decide +kernel
theorem dX10_besides_13 : decode cX10_besides 13 = .ok (.aload_n 0, 1) := by decide +kernel
theorem dX10_besides_14 : decode cX10_besides 14 = .ok (.getfield 36, 3) := by decide +kernel
theorem dX10_besides_17 : decode cX10_besides 17 = .ok (.iload_n 3, 1) := by decide +kernel
theorem dX10_besides_18 : decode cX10_besides 18 = .ok (.iaload, 1) := by decide +kernel
theorem dX10_besides_19 : decode cX10_besides 19 = .ok (.ifCond .ne 16, 3) := by decide +kernel
theorem dX10_besides_22 : decode cX10_besides 22 = .ok (.aload_n 0, 1) := by decide +kernel
theorem dX10_besides_23 : decode cX10_besides 23 = .ok (.iload_n 3, 1) := by decide +kernel
theorem dX10_besides_24 : decode cX10_besides 24 = .ok (.invokevirtual 262, 3) := by decide +kernel
theorem dX10_besides_27 : decode cX10_besides 27 = .ok (.iload_n 1, 1) := by decide +kernel
theorem dX10_besides_28 : decode cX10_besides 28 = .ok (.if_icmp .ne 7, 3) := by decide +kernel
theorem dX10_besides_31 : decode cX10_besides 31 = .ok (.iconst 1, 1) := by decide +kernel
theorem dX10_besides_32 : decode cX10_besides 32 = .ok (.goto 4, 3) := by decide +kernel
theorem dX10_besides_35 : decode cX10_besides 35 = .ok (.iconst 0, 1) := by decide +kernel
theorem dX10_besides_36 : decode cX10_besides 36 = .ok (.invokestatic 200, 3) := by decide +kernel
theorem dX10_besides_39 : decode cX10_besides 39 = .ok (.iadd, 1) := by decide +kernel
theorem dX10_besides_40 : decode cX10_besides 40 = .ok (.istore_n 2, 1) := by decide +kernel
theorem dX10_besides_41 : decode cX10_besides 41 = .ok (.iinc 3 1, 3) := by decide +kernel
theorem dX10_besides_44 : decode cX10_besides 44 = .ok (.goto (-40), 3) := by decide +kernel
theorem dX10_besides_47 : decode cX10_besides 47 = .ok (.iload_n 2, 1) := by decide +kernel
theorem dX10_besides_48 : decode cX10_besides 48 = .ok (.ireturn, 1) := by decide +kernel
theorem dX10_stepLikeness_0 : decode cX10_stepLikeness 0 = .ok (.aload_n 0, 1) := by decide +kernel
theorem dX10_stepLikeness_1 : decode cX10_stepLikeness 1 = .ok (.sipush 480, 3) := by decide +kernel
theorem dX10_stepLikeness_4 : decode cX10_stepLikeness 4 = .ok (.aload_n 0, 1) := by decide +kernel
theorem dX10_stepLikeness_5 : decode cX10_stepLikeness 5 = .ok (.getfield 39, 3) := by decide +kernel
theorem dX10_stepLikeness_8 : decode cX10_stepLikeness 8 = .ok (.iload_n 1, 1) := by decide +kernel
theorem dX10_stepLikeness_9 : decode cX10_stepLikeness 9 = .ok (.iaload, 1) := by decide +kernel
theorem dX10_stepLikeness_10 : decode cX10_stepLikeness 10 = .ok (.iadd, 1) := by decide +kernel
theorem dX10_stepLikeness_11 : decode cX10_stepLikeness 11 = .ok (.sipush 500, 3) := by decide +kernel
theorem dX10_stepLikeness_14 : decode cX10_stepLikeness 14 = .ok (.aload_n 0, 1) := by decide +kernel
theorem dX10_stepLikeness_15 : decode cX10_stepLikeness 15 = .ok (.getfield 42, 3) := by decide +kernel
theorem dX10_stepLikeness_18 : decode cX10_stepLikeness 18 = .ok (.iload_n 1, 1) := by decide +kernel
theorem dX10_stepLikeness_19 : decode cX10_stepLikeness 19 = .ok (.iaload, 1) := by decide +kernel
theorem dX10_stepLikeness_20 : decode cX10_stepLikeness 20 = .ok (.iadd, 1) := by decide +kernel
theorem dX10_stepLikeness_21 : decode cX10_stepLikeness 21 = .ok (.invokevirtual 112, 3) := by decide +kernel
theorem dX10_stepLikeness_24 : decode cX10_stepLikeness 24 = .ok (.ifCond .eq 7, 3) := by decide +kernel
theorem dX10_stepLikeness_27 : decode cX10_stepLikeness 27 = .ok (.iconst 0, 1) := by decide +kernel
theorem dX10_stepLikeness_28 : decode cX10_stepLikeness 28 = .ok (.goto 17, 3) := by decide +kernel
theorem dX10_stepLikeness_31 : decode cX10_stepLikeness 31 = .ok (.aload_n 0, 1) := by decide +kernel
theorem dX10_stepLikeness_32 : decode cX10_stepLikeness 32 = .ok (.getfield 52, 3) := by decide +kernel
theorem dX10_stepLikeness_35 : decode cX10_stepLikeness 35 = .ok (.iload_n 1, 1) := by decide +kernel
theorem dX10_stepLikeness_36 : decode cX10_stepLikeness 36 = .ok (.baload, 1) := by decide +kernel
theorem dX10_stepLikeness_37 : decode cX10_stepLikeness 37 = .ok (.ifCond .eq 7, 3) := by decide +kernel
theorem dX10_stepLikeness_40 : decode cX10_stepLikeness 40 = .ok (.iconst 1, 1) := by decide +kernel
theorem dX10_stepLikeness_41 : decode cX10_stepLikeness 41 = .ok (.goto 4, 3) := by decide +kernel
theorem dX10_stepLikeness_44 : decode cX10_stepLikeness 44 = .ok (.iconst 2, 1) := by decide +kernel
theorem dX10_stepLikeness_45 : decode cX10_stepLikeness 45 = .ok (.ireturn, 1) := by decide +kernel
theorem dX10_seesNear_0 : decode cX10_seesNear 0 = .ok (.iconst 0, 1) := by decide +kernel
theorem dX10_seesNear_1 : decode cX10_seesNear 1 = .ok (.istore_n 1, 1) := by decide +kernel
theorem dX10_seesNear_2 : decode cX10_seesNear 2 = .ok (.iload_n 1, 1) := by decide +kernel
theorem dX10_seesNear_3 : decode cX10_seesNear 3 = .ok (.aload_n 0, 1) := by decide +kernel
theorem dX10_seesNear_4 : decode cX10_seesNear 4 = .ok (.getfield 233, 3) := by decide +kernel
theorem dX10_seesNear_7 : decode cX10_seesNear 7 = .ok (.if_icmp .ge 56, 3) := by decide +kernel
theorem dX10_seesNear_10 : decode cX10_seesNear 10 = .ok (.aload_n 0, 1) := by decide +kernel
theorem dX10_seesNear_11 : decode cX10_seesNear 11 = .ok (.getfield 52, 3) := by decide +kernel
theorem dX10_seesNear_14 : decode cX10_seesNear 14 = .ok (.iload_n 1, 1) := by decide +kernel
theorem dX10_seesNear_15 : decode cX10_seesNear 15 = .ok (.aload_n 0, 1) := by decide +kernel
theorem dX10_seesNear_16 : decode cX10_seesNear 16 = .ok (.getfield 36, 3) := by decide +kernel
theorem dX10_seesNear_19 : decode cX10_seesNear 19 = .ok (.iload_n 1, 1) := by decide +kernel
theorem dX10_seesNear_20 : decode cX10_seesNear 20 = .ok (.iaload, 1) := by decide +kernel
theorem dX10_seesNear_21 : decode cX10_seesNear 21 = .ok (.ifCond .ne 34, 3) := by decide +kernel
theorem dX10_seesNear_24 : decode cX10_seesNear 24 = .ok (.aload_n 0, 1) := by decide +kernel
theorem dX10_seesNear_25 : decode cX10_seesNear 25 = .ok (.sipush 480, 3) := by decide +kernel
theorem dX10_seesNear_28 : decode cX10_seesNear 28 = .ok (.aload_n 0, 1) := by decide +kernel
theorem dX10_seesNear_29 : decode cX10_seesNear 29 = .ok (.getfield 39, 3) := by decide +kernel
theorem dX10_seesNear_32 : decode cX10_seesNear 32 = .ok (.iload_n 1, 1) := by decide +kernel
theorem dX10_seesNear_33 : decode cX10_seesNear 33 = .ok (.iaload, 1) := by decide +kernel
theorem dX10_seesNear_34 : decode cX10_seesNear 34 = .ok (.iadd, 1) := by decide +kernel
theorem dX10_seesNear_35 : decode cX10_seesNear 35 = .ok (.sipush 500, 3) := by decide +kernel
theorem dX10_seesNear_38 : decode cX10_seesNear 38 = .ok (.aload_n 0, 1) := by decide +kernel
theorem dX10_seesNear_39 : decode cX10_seesNear 39 = .ok (.getfield 42, 3) := by decide +kernel
theorem dX10_seesNear_42 : decode cX10_seesNear 42 = .ok (.iload_n 1, 1) := by decide +kernel
theorem dX10_seesNear_43 : decode cX10_seesNear 43 = .ok (.iaload, 1) := by decide +kernel
theorem dX10_seesNear_44 : decode cX10_seesNear 44 = .ok (.iadd, 1) := by decide +kernel
theorem dX10_seesNear_45 : decode cX10_seesNear 45 = .ok (.invokevirtual 115, 3) := by decide +kernel
theorem dX10_seesNear_48 : decode cX10_seesNear 48 = .ok (.ifCond .eq 7, 3) := by decide +kernel
theorem dX10_seesNear_51 : decode cX10_seesNear 51 = .ok (.iconst 1, 1) := by decide +kernel
theorem dX10_seesNear_52 : decode cX10_seesNear 52 = .ok (.goto 4, 3) := by decide +kernel
theorem dX10_seesNear_55 : decode cX10_seesNear 55 = .ok (.iconst 0, 1) := by decide +kernel
theorem dX10_seesNear_56 : decode cX10_seesNear 56 = .ok (.bastore, 1) := by decide +kernel
theorem dX10_seesNear_57 : decode cX10_seesNear 57 = .ok (.iinc 1 1, 3) := by decide +kernel
theorem dX10_seesNear_60 : decode cX10_seesNear 60 = .ok (.goto (-58), 3) := by decide +kernel
theorem dX10_seesNear_63 : decode cX10_seesNear 63 = .ok (.return_, 1) := by decide +kernel
theorem dX10_withWhich_0 : decode cX10_withWhich 0 = .ok (.iconst 0, 1) := by decide +kernel
theorem dX10_withWhich_1 : decode cX10_withWhich 1 = .ok (.istore_n 2, 1) := by decide +kernel
theorem dX10_withWhich_2 : decode cX10_withWhich 2 = .ok (.iconst 0, 1) := by decide +kernel
theorem dX10_withWhich_3 : decode cX10_withWhich 3 = .ok (.istore_n 3, 1) := by decide +kernel
theorem dX10_withWhich_4 : decode cX10_withWhich 4 = .ok (.iload_n 3, 1) := by decide +kernel
theorem dX10_withWhich_5 : decode cX10_withWhich 5 = .ok (.aload_n 0, 1) := by decide +kernel
theorem dX10_withWhich_6 : decode cX10_withWhich 6 = .ok (.getfield 233, 3) := by decide +kernel
theorem dX10_withWhich_9 : decode cX10_withWhich 9 = .ok (.if_icmp .ge 30, 3) := by decide +kernel
theorem dX10_withWhich_12 : decode cX10_withWhich 12 = .ok (.iload_n 2, 1) := by decide +kernel
theorem dX10_withWhich_13 : decode cX10_withWhich 13 = .ok (.aload_n 0, 1) := by decide +kernel
theorem dX10_withWhich_14 : decode cX10_withWhich 14 = .ok (.getfield 36, 3) := by decide +kernel
theorem dX10_withWhich_17 : decode cX10_withWhich 17 = .ok (.iload_n 3, 1) := by decide +kernel
theorem dX10_withWhich_18 : decode cX10_withWhich 18 = .ok (.iaload, 1) := by decide +kernel
theorem dX10_withWhich_19 : decode cX10_withWhich 19 = .ok (.iload_n 1, 1) := by decide +kernel
theorem dX10_withWhich_20 : decode cX10_withWhich 20 = .ok (.if_icmp .ne 7, 3) := by decide +kernel
theorem dX10_withWhich_23 : decode cX10_withWhich 23 = .ok (.iconst 1, 1) := by decide +kernel
theorem dX10_withWhich_24 : decode cX10_withWhich 24 = .ok (.goto 4, 3) := by decide +kernel
theorem dX10_withWhich_27 : decode cX10_withWhich 27 = .ok (.iconst 0, 1) := by decide +kernel
theorem dX10_withWhich_28 : decode cX10_withWhich 28 = .ok (.invokestatic 200, 3) := by decide +kernel
theorem dX10_withWhich_31 : decode cX10_withWhich 31 = .ok (.iadd, 1) := by decide +kernel
theorem dX10_withWhich_32 : decode cX10_withWhich 32 = .ok (.istore_n 2, 1) := by decide +kernel
theorem dX10_withWhich_33 : decode cX10_withWhich 33 = .ok (.iinc 3 1, 3) := by decide +kernel
theorem dX10_withWhich_36 : decode cX10_withWhich 36 = .ok (.goto (-32), 3) := by decide +kernel
theorem dX10_withWhich_39 : decode cX10_withWhich 39 = .ok (.iload_n 2, 1) := by decide +kernel
theorem dX10_withWhich_40 : decode cX10_withWhich 40 = .ok (.ireturn, 1) := by decide +kernel
theorem dX10_doubles_0 : decode cX10_doubles 0 = .ok (.iconst 0, 1) := by decide +kernel
theorem dX10_doubles_1 : decode cX10_doubles 1 = .ok (.istore_n 1, 1) := by decide +kernel
theorem dX10_doubles_2 : decode cX10_doubles 2 = .ok (.iconst 0, 1) := by decide +kernel
theorem dX10_doubles_3 : decode cX10_doubles 3 = .ok (.istore_n 2, 1) := by decide +kernel
theorem dX10_doubles_4 : decode cX10_doubles 4 = .ok (.iload_n 2, 1) := by decide +kernel
theorem dX10_doubles_5 : decode cX10_doubles 5 = .ok (.aload_n 0, 1) := by decide +kernel
theorem dX10_doubles_6 : decode cX10_doubles 6 = .ok (.getfield 233, 3) := by decide +kernel
theorem dX10_doubles_9 : decode cX10_doubles 9 = .ok (.if_icmp .ge 21, 3) := by decide +kernel
theorem dX10_doubles_12 : decode cX10_doubles 12 = .ok (.iload_n 1, 1) := by decide +kernel
theorem dX10_doubles_13 : decode cX10_doubles 13 = .ok (.aload_n 0, 1) := by decide +kernel
theorem dX10_doubles_14 : decode cX10_doubles 14 = .ok (.getfield 48, 3) := by decide +kernel
theorem dX10_doubles_17 : decode cX10_doubles 17 = .ok (.iload_n 2, 1) := by decide +kernel
theorem dX10_doubles_18 : decode cX10_doubles 18 = .ok (.baload, 1) := by decide +kernel
theorem dX10_doubles_19 : decode cX10_doubles 19 = .ok (.invokestatic 200, 3) := by decide +kernel
theorem dX10_doubles_22 : decode cX10_doubles 22 = .ok (.iadd, 1) := by decide +kernel
theorem dX10_doubles_23 : decode cX10_doubles 23 = .ok (.istore_n 1, 1) := by decide +kernel
theorem dX10_doubles_24 : decode cX10_doubles 24 = .ok (.iinc 2 1, 3) := by decide +kernel
theorem dX10_doubles_27 : decode cX10_doubles 27 = .ok (.goto (-23), 3) := by decide +kernel
theorem dX10_doubles_30 : decode cX10_doubles 30 = .ok (.iload_n 1, 1) := by decide +kernel
theorem dX10_doubles_31 : decode cX10_doubles 31 = .ok (.ireturn, 1) := by decide +kernel
theorem dX10_joinedKind_0 : decode cX10_joinedKind 0 = .ok (.aload_n 0, 1) := by decide +kernel
theorem dX10_joinedKind_1 : decode cX10_joinedKind 1 = .ok (.getfield 21, 3) := by decide +kernel
theorem dX10_joinedKind_4 : decode cX10_joinedKind 4 = .ok (.bipush 24, 2) := by decide +kernel
theorem dX10_joinedKind_6 : decode cX10_joinedKind 6 = .ok (.iaload, 1) := by decide +kernel
theorem dX10_joinedKind_7 : decode cX10_joinedKind 7 = .ok (.istore_n 1, 1) := by decide +kernel
theorem dX10_joinedKind_8 : decode cX10_joinedKind 8 = .ok (.aload_n 0, 1) := by decide +kernel
theorem dX10_joinedKind_9 : decode cX10_joinedKind 9 = .ok (.getfield 21, 3) := by decide +kernel
theorem dX10_joinedKind_12 : decode cX10_joinedKind 12 = .ok (.bipush 25, 2) := by decide +kernel
theorem dX10_joinedKind_14 : decode cX10_joinedKind 14 = .ok (.iaload, 1) := by decide +kernel
theorem dX10_joinedKind_15 : decode cX10_joinedKind 15 = .ok (.istore_n 2, 1) := by decide +kernel
theorem dX10_joinedKind_16 : decode cX10_joinedKind 16 = .ok (.iload_n 1, 1) := by decide +kernel
theorem dX10_joinedKind_17 : decode cX10_joinedKind 17 = .ok (.invokestatic 76, 3) := by decide +kernel
theorem dX10_joinedKind_20 : decode cX10_joinedKind 20 = .ok (.ifCond .eq 26, 3) := by decide +kernel
theorem dX10_joinedKind_23 : decode cX10_joinedKind 23 = .ok (.iload_n 2, 1) := by decide +kernel
theorem dX10_joinedKind_24 : decode cX10_joinedKind 24 = .ok (.invokestatic 76, 3) := by decide +kernel
theorem dX10_joinedKind_27 : decode cX10_joinedKind 27 = .ok (.ifCond .eq 19, 3) := by decide +kernel
theorem dX10_joinedKind_30 : decode cX10_joinedKind 30 = .ok (.iload_n 1, 1) := by decide +kernel
theorem dX10_joinedKind_31 : decode cX10_joinedKind 31 = .ok (.iload_n 2, 1) := by decide +kernel
theorem dX10_joinedKind_32 : decode cX10_joinedKind 32 = .ok (.invokestatic 108, 3) := by decide +kernel
theorem dX10_joinedKind_35 : decode cX10_joinedKind 35 = .ok (.bipush (-4), 2) := by decide +kernel
theorem dX10_joinedKind_37 : decode cX10_joinedKind 37 = .ok (.if_icmp .eq 9, 3) := by decide +kernel
theorem dX10_joinedKind_40 : decode cX10_joinedKind 40 = .ok (.iload_n 1, 1) := by decide +kernel
theorem dX10_joinedKind_41 : decode cX10_joinedKind 41 = .ok (.iload_n 2, 1) := by decide +kernel
theorem dX10_joinedKind_42 : decode cX10_joinedKind 42 = .ok (.invokestatic 108, 3) := by decide +kernel
theorem dX10_joinedKind_45 : decode cX10_joinedKind 45 = .ok (.ireturn, 1) := by decide +kernel
theorem dX10_joinedKind_46 : decode cX10_joinedKind 46 = .ok (.iload_n 1, 1) := by decide +kernel
theorem dX10_joinedKind_47 : decode cX10_joinedKind 47 = .ok (.iload_n 2, 1) := by decide +kernel
theorem dX10_joinedKind_48 : decode cX10_joinedKind 48 = .ok (.if_icmp .ne 13, 3) := by decide +kernel
theorem dX10_joinedKind_51 : decode cX10_joinedKind 51 = .ok (.iload_n 1, 1) := by decide +kernel
theorem dX10_joinedKind_52 : decode cX10_joinedKind 52 = .ok (.bipush 7, 2) := by decide +kernel
theorem dX10_joinedKind_54 : decode cX10_joinedKind 54 = .ok (.if_icmp .le 7, 3) := by decide +kernel
theorem dX10_joinedKind_57 : decode cX10_joinedKind 57 = .ok (.iload_n 1, 1) := by decide +kernel
theorem dX10_joinedKind_58 : decode cX10_joinedKind 58 = .ok (.goto 5, 3) := by decide +kernel
theorem dX10_joinedKind_61 : decode cX10_joinedKind 61 = .ok (.bipush 9, 2) := by decide +kernel
theorem dX10_joinedKind_63 : decode cX10_joinedKind 63 = .ok (.ireturn, 1) := by decide +kernel
theorem dX10_result_0 : decode cX10_result 0 = .ok (.iload_n 1, 1) := by decide +kernel
theorem dX10_result_1 : decode cX10_result 1 = .ok (.i2l, 1) := by decide +kernel
theorem dX10_result_2 : decode cX10_result 2 = .ok (.lconst 0, 1) := by decide +kernel
theorem dX10_result_3 : decode cX10_result 3 = .ok (.ldc2_w 211, 3) := by decide +kernel
theorem dX10_result_6 : decode cX10_result 6 = .ok (.invokestatic 72, 3) := by decide +kernel
theorem dX10_result_9 : decode cX10_result 9 = .ok (.ifCond .ne 5, 3) := by decide +kernel
theorem dX10_result_12 : decode cX10_result 12 = .ok (.iconst (-1), 1) := by decide +kernel
theorem dX10_result_13 : decode cX10_result 13 = .ok (.ireturn, 1) := by decide +kernel
theorem dX10_result_14 : decode cX10_result 14 = .ok (.aload_n 0, 1) := by decide +kernel
theorem dX10_result_15 : decode cX10_result 15 = .ok (.getfield 258, 3) := by decide +kernel
theorem dX10_result_18 : decode cX10_result 18 = .ok (.ifCond .ne 6, 3) := by decide +kernel
theorem dX10_result_21 : decode cX10_result 21 = .ok (.bipush (-2), 2) := by decide +kernel
theorem dX10_result_23 : decode cX10_result 23 = .ok (.ireturn, 1) := by decide +kernel
theorem dX10_result_24 : decode cX10_result 24 = .ok (.iload_n 1, 1) := by decide +kernel
theorem dX10_result_25 : decode cX10_result 25 = .ok (.tableswitch 87 0 8 #[51, 56, 61, 61, 61, 69, 69, 77, 82], 51) := by decide +kernel
theorem dX10_result_76 : decode cX10_result 76 = .ok (.aload_n 0, 1) := by decide +kernel
theorem dX10_result_77 : decode cX10_result 77 = .ok (.getfield 249, 3) := by decide +kernel
theorem dX10_result_80 : decode cX10_result 80 = .ok (.ireturn, 1) := by decide +kernel
theorem dX10_result_81 : decode cX10_result 81 = .ok (.aload_n 0, 1) := by decide +kernel
theorem dX10_result_82 : decode cX10_result 82 = .ok (.getfield 233, 3) := by decide +kernel
theorem dX10_result_85 : decode cX10_result 85 = .ok (.ireturn, 1) := by decide +kernel
theorem dX10_result_86 : decode cX10_result 86 = .ok (.aload_n 0, 1) := by decide +kernel
theorem dX10_result_87 : decode cX10_result 87 = .ok (.iload_n 1, 1) := by decide +kernel
theorem dX10_result_88 : decode cX10_result 88 = .ok (.iconst 2, 1) := by decide +kernel
theorem dX10_result_89 : decode cX10_result 89 = .ok (.isub, 1) := by decide +kernel
theorem dX10_result_90 : decode cX10_result 90 = .ok (.invokevirtual 265, 3) := by decide +kernel
theorem dX10_result_93 : decode cX10_result 93 = .ok (.ireturn, 1) := by decide +kernel
theorem dX10_result_94 : decode cX10_result 94 = .ok (.aload_n 0, 1) := by decide +kernel
theorem dX10_result_95 : decode cX10_result 95 = .ok (.iload_n 1, 1) := by decide +kernel
theorem dX10_result_96 : decode cX10_result 96 = .ok (.iconst 4, 1) := by decide +kernel
theorem dX10_result_97 : decode cX10_result 97 = .ok (.isub, 1) := by decide +kernel
theorem dX10_result_98 : decode cX10_result 98 = .ok (.invokevirtual 268, 3) := by decide +kernel
theorem dX10_result_101 : decode cX10_result 101 = .ok (.ireturn, 1) := by decide +kernel
theorem dX10_result_102 : decode cX10_result 102 = .ok (.aload_n 0, 1) := by decide +kernel
theorem dX10_result_103 : decode cX10_result 103 = .ok (.invokevirtual 271, 3) := by decide +kernel
theorem dX10_result_106 : decode cX10_result 106 = .ok (.ireturn, 1) := by decide +kernel
theorem dX10_result_107 : decode cX10_result 107 = .ok (.aload_n 0, 1) := by decide +kernel
theorem dX10_result_108 : decode cX10_result 108 = .ok (.invokevirtual 275, 3) := by decide +kernel
theorem dX10_result_111 : decode cX10_result 111 = .ok (.ireturn, 1) := by decide +kernel
theorem dX10_result_112 : decode cX10_result 112 = .ok (.aload_n 0, 1) := by decide +kernel
theorem dX10_result_113 : decode cX10_result 113 = .ok (.getfield 233, 3) := by decide +kernel
theorem dX10_result_116 : decode cX10_result 116 = .ok (.aload_n 0, 1) := by decide +kernel
theorem dX10_result_117 : decode cX10_result 117 = .ok (.invokevirtual 271, 3) := by decide +kernel
theorem dX10_result_120 : decode cX10_result 120 = .ok (.isub, 1) := by decide +kernel
theorem dX10_result_121 : decode cX10_result 121 = .ok (.ireturn, 1) := by decide +kernel
theorem dX10_step_0 : decode cX10_step 0 = .ok (.iload_n 1, 1) := by decide +kernel
theorem dX10_step_1 : decode cX10_step 1 = .ok (.ifCond .lt 15, 3) := by decide +kernel
theorem dX10_step_4 : decode cX10_step 4 = .ok (.iload_n 2, 1) := by decide +kernel
theorem dX10_step_5 : decode cX10_step 5 = .ok (.i2l, 1) := by decide +kernel
theorem dX10_step_6 : decode cX10_step 6 = .ok (.lconst 0, 1) := by decide +kernel
theorem dX10_step_7 : decode cX10_step 7 = .ok (.ldc2_w 207, 3) := by decide +kernel
theorem dX10_step_10 : decode cX10_step 10 = .ok (.invokestatic 72, 3) := by decide +kernel
theorem dX10_step_13 : decode cX10_step 13 = .ok (.ifCond .ne 5, 3) := by decide +kernel
theorem dX10_step_16 : decode cX10_step 16 = .ok (.iconst (-1), 1) := by decide +kernel
theorem dX10_step_17 : decode cX10_step 17 = .ok (.ireturn, 1) := by decide +kernel
theorem dX10_step_18 : decode cX10_step 18 = .ok (.aload_n 0, 1) := by decide +kernel
theorem dX10_step_19 : decode cX10_step 19 = .ok (.getfield 258, 3) := by decide +kernel
theorem dX10_step_22 : decode cX10_step 22 = .ok (.ifCond .ne 6, 3) := by decide +kernel
theorem dX10_step_25 : decode cX10_step 25 = .ok (.bipush (-2), 2) := by decide +kernel
theorem dX10_step_27 : decode cX10_step 27 = .ok (.ireturn, 1) := by decide +kernel
theorem dX10_step_28 : decode cX10_step 28 = .ok (.iload_n 1, 1) := by decide +kernel
theorem dX10_step_29 : decode cX10_step 29 = .ok (.aload_n 0, 1) := by decide +kernel
theorem dX10_step_30 : decode cX10_step 30 = .ok (.getfield 233, 3) := by decide +kernel
theorem dX10_step_33 : decode cX10_step 33 = .ok (.if_icmp .lt 6, 3) := by decide +kernel
theorem dX10_step_36 : decode cX10_step 36 = .ok (.bipush (-4), 2) := by decide +kernel
theorem dX10_step_38 : decode cX10_step 38 = .ok (.ireturn, 1) := by decide +kernel
theorem dX10_step_39 : decode cX10_step 39 = .ok (.iload_n 2, 1) := by decide +kernel
theorem dX10_step_40 : decode cX10_step 40 = .ok (.tableswitch 49 0 2 #[28, 35, 42], 28) := by decide +kernel
theorem dX10_step_68 : decode cX10_step 68 = .ok (.aload_n 0, 1) := by decide +kernel
theorem dX10_step_69 : decode cX10_step 69 = .ok (.getfield 36, 3) := by decide +kernel
theorem dX10_step_72 : decode cX10_step 72 = .ok (.iload_n 1, 1) := by decide +kernel
theorem dX10_step_73 : decode cX10_step 73 = .ok (.iaload, 1) := by decide +kernel
theorem dX10_step_74 : decode cX10_step 74 = .ok (.ireturn, 1) := by decide +kernel
theorem dX10_step_75 : decode cX10_step 75 = .ok (.aload_n 0, 1) := by decide +kernel
theorem dX10_step_76 : decode cX10_step 76 = .ok (.getfield 39, 3) := by decide +kernel
theorem dX10_step_79 : decode cX10_step 79 = .ok (.iload_n 1, 1) := by decide +kernel
theorem dX10_step_80 : decode cX10_step 80 = .ok (.iaload, 1) := by decide +kernel
theorem dX10_step_81 : decode cX10_step 81 = .ok (.ireturn, 1) := by decide +kernel
theorem dX10_step_82 : decode cX10_step 82 = .ok (.aload_n 0, 1) := by decide +kernel
theorem dX10_step_83 : decode cX10_step 83 = .ok (.getfield 42, 3) := by decide +kernel
theorem dX10_step_86 : decode cX10_step 86 = .ok (.iload_n 1, 1) := by decide +kernel
theorem dX10_step_87 : decode cX10_step 87 = .ok (.iaload, 1) := by decide +kernel
theorem dX10_step_88 : decode cX10_step 88 = .ok (.ireturn, 1) := by decide +kernel
theorem dX10_step_89 : decode cX10_step 89 = .ok (.aload_n 0, 1) := by decide +kernel
theorem dX10_step_90 : decode cX10_step 90 = .ok (.getfield 45, 3) := by decide +kernel
theorem dX10_step_93 : decode cX10_step 93 = .ok (.iload_n 1, 1) := by decide +kernel
theorem dX10_step_94 : decode cX10_step 94 = .ok (.iaload, 1) := by decide +kernel
theorem dX10_step_95 : decode cX10_step 95 = .ok (.ireturn, 1) := by decide +kernel
theorem dX10_halfOf_0 : decode cX10_halfOf 0 = .ok (.lload_n 0, 1) := by decide +kernel
theorem dX10_halfOf_1 : decode cX10_halfOf 1 = .ok (.iconst 1, 1) := by decide +kernel
theorem dX10_halfOf_2 : decode cX10_halfOf 2 = .ok (.lshr, 1) := by decide +kernel
theorem dX10_halfOf_3 : decode cX10_halfOf 3 = .ok (.lload_n 2, 1) := by decide +kernel
theorem dX10_halfOf_4 : decode cX10_halfOf 4 = .ok (.iconst 1, 1) := by decide +kernel
theorem dX10_halfOf_5 : decode cX10_halfOf 5 = .ok (.lshr, 1) := by decide +kernel
theorem dX10_halfOf_6 : decode cX10_halfOf 6 = .ok (.ladd, 1) := by decide +kernel
theorem dX10_halfOf_7 : decode cX10_halfOf 7 = .ok (.lload_n 0, 1) := by decide +kernel
theorem dX10_halfOf_8 : decode cX10_halfOf 8 = .ok (.lload_n 2, 1) := by decide +kernel
theorem dX10_halfOf_9 : decode cX10_halfOf 9 = .ok (.land, 1) := by decide +kernel
theorem dX10_halfOf_10 : decode cX10_halfOf 10 = .ok (.lconst 1, 1) := by decide +kernel
theorem dX10_halfOf_11 : decode cX10_halfOf 11 = .ok (.land, 1) := by decide +kernel
theorem dX10_halfOf_12 : decode cX10_halfOf 12 = .ok (.ladd, 1) := by decide +kernel
theorem dX10_halfOf_13 : decode cX10_halfOf 13 = .ok (.lreturn, 1) := by decide +kernel
theorem dX10_laysMean_0 : decode cX10_laysMean 0 = .ok (.aload_n 0, 1) := by decide +kernel
theorem dX10_laysMean_1 : decode cX10_laysMean 1 = .ok (.getfield 7, 3) := by decide +kernel
theorem dX10_laysMean_4 : decode cX10_laysMean 4 = .ok (.iload_n 1, 1) := by decide +kernel
theorem dX10_laysMean_5 : decode cX10_laysMean 5 = .ok (.iaload, 1) := by decide +kernel
theorem dX10_laysMean_6 : decode cX10_laysMean 6 = .ok (.aload_n 0, 1) := by decide +kernel
theorem dX10_laysMean_7 : decode cX10_laysMean 7 = .ok (.getfield 7, 3) := by decide +kernel
theorem dX10_laysMean_10 : decode cX10_laysMean 10 = .ok (.iload_n 2, 1) := by decide +kernel
theorem dX10_laysMean_11 : decode cX10_laysMean 11 = .ok (.iaload, 1) := by decide +kernel
theorem dX10_laysMean_12 : decode cX10_laysMean 12 = .ok (.invokestatic 108, 3) := by decide +kernel
theorem dX10_laysMean_15 : decode cX10_laysMean 15 = .ok (.istore 4, 2) := by decide +kernel
theorem dX10_laysMean_17 : decode cX10_laysMean 17 = .ok (.iload 4, 2) := by decide +kernel
theorem dX10_laysMean_19 : decode cX10_laysMean 19 = .ok (.ifCond .ne 27, 3) := by decide +kernel
theorem dX10_laysMean_22 : decode cX10_laysMean 22 = .ok (.aload_n 0, 1) := by decide +kernel
theorem dX10_laysMean_23 : decode cX10_laysMean 23 = .ok (.iload_n 3, 1) := by decide +kernel
theorem dX10_laysMean_24 : decode cX10_laysMean 24 = .ok (.iload 4, 2) := by decide +kernel
theorem dX10_laysMean_26 : decode cX10_laysMean 26 = .ok (.aload_n 0, 1) := by decide +kernel
theorem dX10_laysMean_27 : decode cX10_laysMean 27 = .ok (.getfield 13, 3) := by decide +kernel
theorem dX10_laysMean_30 : decode cX10_laysMean 30 = .ok (.iload_n 1, 1) := by decide +kernel
theorem dX10_laysMean_31 : decode cX10_laysMean 31 = .ok (.laload, 1) := by decide +kernel
theorem dX10_laysMean_32 : decode cX10_laysMean 32 = .ok (.aload_n 0, 1) := by decide +kernel
theorem dX10_laysMean_33 : decode cX10_laysMean 33 = .ok (.getfield 13, 3) := by decide +kernel
theorem dX10_laysMean_36 : decode cX10_laysMean 36 = .ok (.iload_n 2, 1) := by decide +kernel
theorem dX10_laysMean_37 : decode cX10_laysMean 37 = .ok (.laload, 1) := by decide +kernel
theorem dX10_laysMean_38 : decode cX10_laysMean 38 = .ok (.land, 1) := by decide +kernel
theorem dX10_laysMean_39 : decode cX10_laysMean 39 = .ok (.dconst 0, 1) := by decide +kernel
theorem dX10_laysMean_40 : decode cX10_laysMean 40 = .ok (.invokevirtual 84, 3) := by decide +kernel
theorem dX10_laysMean_43 : decode cX10_laysMean 43 = .ok (.goto 107, 3) := by decide +kernel
theorem dX10_laysMean_46 : decode cX10_laysMean 46 = .ok (.iload 4, 2) := by decide +kernel
theorem dX10_laysMean_48 : decode cX10_laysMean 48 = .ok (.bipush 6, 2) := by decide +kernel
theorem dX10_laysMean_50 : decode cX10_laysMean 50 = .ok (.if_icmp .ge 29, 3) := by decide +kernel
theorem dX10_laysMean_53 : decode cX10_laysMean 53 = .ok (.aload_n 0, 1) := by decide +kernel
theorem dX10_laysMean_54 : decode cX10_laysMean 54 = .ok (.iload_n 3, 1) := by decide +kernel
theorem dX10_laysMean_55 : decode cX10_laysMean 55 = .ok (.iload 4, 2) := by decide +kernel
theorem dX10_laysMean_57 : decode cX10_laysMean 57 = .ok (.aload_n 0, 1) := by decide +kernel
theorem dX10_laysMean_58 : decode cX10_laysMean 58 = .ok (.getfield 13, 3) := by decide +kernel
theorem dX10_laysMean_61 : decode cX10_laysMean 61 = .ok (.iload_n 1, 1) := by decide +kernel
theorem dX10_laysMean_62 : decode cX10_laysMean 62 = .ok (.laload, 1) := by decide +kernel
theorem dX10_laysMean_63 : decode cX10_laysMean 63 = .ok (.aload_n 0, 1) := by decide +kernel
theorem dX10_laysMean_64 : decode cX10_laysMean 64 = .ok (.getfield 13, 3) := by decide +kernel
theorem dX10_laysMean_67 : decode cX10_laysMean 67 = .ok (.iload_n 2, 1) := by decide +kernel
theorem dX10_laysMean_68 : decode cX10_laysMean 68 = .ok (.laload, 1) := by decide +kernel
theorem dX10_laysMean_69 : decode cX10_laysMean 69 = .ok (.invokestatic 278, 3) := by decide +kernel
theorem dX10_laysMean_72 : decode cX10_laysMean 72 = .ok (.dconst 0, 1) := by decide +kernel
theorem dX10_laysMean_73 : decode cX10_laysMean 73 = .ok (.invokevirtual 84, 3) := by decide +kernel
theorem dX10_laysMean_76 : decode cX10_laysMean 76 = .ok (.goto 74, 3) := by decide +kernel
theorem dX10_laysMean_79 : decode cX10_laysMean 79 = .ok (.iload 4, 2) := by decide +kernel
theorem dX10_laysMean_81 : decode cX10_laysMean 81 = .ok (.bipush 6, 2) := by decide +kernel
theorem dX10_laysMean_83 : decode cX10_laysMean 83 = .ok (.if_icmp .ne 38, 3) := by decide +kernel
theorem dX10_laysMean_86 : decode cX10_laysMean 86 = .ok (.aload_n 0, 1) := by decide +kernel
theorem dX10_laysMean_87 : decode cX10_laysMean 87 = .ok (.iload_n 3, 1) := by decide +kernel
theorem dX10_laysMean_88 : decode cX10_laysMean 88 = .ok (.iload 4, 2) := by decide +kernel
theorem dX10_laysMean_90 : decode cX10_laysMean 90 = .ok (.lconst 0, 1) := by decide +kernel
theorem dX10_laysMean_91 : decode cX10_laysMean 91 = .ok (.aload_n 0, 1) := by decide +kernel
theorem dX10_laysMean_92 : decode cX10_laysMean 92 = .ok (.iload_n 1, 1) := by decide +kernel
theorem dX10_laysMean_93 : decode cX10_laysMean 93 = .ok (.iload 4, 2) := by decide +kernel
theorem dX10_laysMean_95 : decode cX10_laysMean 95 = .ok (.invokevirtual 88, 3) := by decide +kernel
theorem dX10_laysMean_98 : decode cX10_laysMean 98 = .ok (.d2f, 1) := by decide +kernel
theorem dX10_laysMean_99 : decode cX10_laysMean 99 = .ok (.aload_n 0, 1) := by decide +kernel
theorem dX10_laysMean_100 : decode cX10_laysMean 100 = .ok (.iload_n 2, 1) := by decide +kernel
theorem dX10_laysMean_101 : decode cX10_laysMean 101 = .ok (.iload 4, 2) := by decide +kernel
theorem dX10_laysMean_103 : decode cX10_laysMean 103 = .ok (.invokevirtual 88, 3) := by decide +kernel
theorem dX10_laysMean_106 : decode cX10_laysMean 106 = .ok (.d2f, 1) := by decide +kernel
theorem dX10_laysMean_107 : decode cX10_laysMean 107 = .ok (.fadd, 1) := by decide +kernel
theorem dX10_laysMean_108 : decode cX10_laysMean 108 = .ok (.ldc_w 282, 3) := by decide +kernel
theorem dX10_laysMean_111 : decode cX10_laysMean 111 = .ok (.fmul, 1) := by decide +kernel
theorem dX10_laysMean_112 : decode cX10_laysMean 112 = .ok (.fconst 0, 1) := by decide +kernel
theorem dX10_laysMean_113 : decode cX10_laysMean 113 = .ok (.fadd, 1) := by decide +kernel
theorem dX10_laysMean_114 : decode cX10_laysMean 114 = .ok (.f2d, 1) := by decide +kernel
theorem dX10_laysMean_115 : decode cX10_laysMean 115 = .ok (.invokevirtual 84, 3) := by decide +kernel
theorem dX10_laysMean_118 : decode cX10_laysMean 118 = .ok (.goto 32, 3) := by decide +kernel
theorem dX10_laysMean_121 : decode cX10_laysMean 121 = .ok (.aload_n 0, 1) := by decide +kernel
theorem dX10_laysMean_122 : decode cX10_laysMean 122 = .ok (.iload_n 3, 1) := by decide +kernel
theorem dX10_laysMean_123 : decode cX10_laysMean 123 = .ok (.iload 4, 2) := by decide +kernel
theorem dX10_laysMean_125 : decode cX10_laysMean 125 = .ok (.lconst 0, 1) := by decide +kernel
theorem dX10_laysMean_126 : decode cX10_laysMean 126 = .ok (.aload_n 0, 1) := by decide +kernel
theorem dX10_laysMean_127 : decode cX10_laysMean 127 = .ok (.iload_n 1, 1) := by decide +kernel
theorem dX10_laysMean_128 : decode cX10_laysMean 128 = .ok (.iload 4, 2) := by decide +kernel
theorem dX10_laysMean_130 : decode cX10_laysMean 130 = .ok (.invokevirtual 88, 3) := by decide +kernel
theorem dX10_laysMean_133 : decode cX10_laysMean 133 = .ok (.aload_n 0, 1) := by decide +kernel
theorem dX10_laysMean_134 : decode cX10_laysMean 134 = .ok (.iload_n 2, 1) := by decide +kernel
theorem dX10_laysMean_135 : decode cX10_laysMean 135 = .ok (.iload 4, 2) := by decide +kernel
theorem dX10_laysMean_137 : decode cX10_laysMean 137 = .ok (.invokevirtual 88, 3) := by decide +kernel
theorem dX10_laysMean_140 : decode cX10_laysMean 140 = .ok (.dadd, 1) := by decide +kernel
theorem dX10_laysMean_141 : decode cX10_laysMean 141 = .ok (.ldc2_w 283, 3) := by decide +kernel
theorem dX10_laysMean_144 : decode cX10_laysMean 144 = .ok (.dmul, 1) := by decide +kernel
theorem dX10_laysMean_145 : decode cX10_laysMean 145 = .ok (.dconst 0, 1) := by decide +kernel
theorem dX10_laysMean_146 : decode cX10_laysMean 146 = .ok (.dadd, 1) := by decide +kernel
theorem dX10_laysMean_147 : decode cX10_laysMean 147 = .ok (.invokevirtual 84, 3) := by decide +kernel
theorem dX10_laysMean_150 : decode cX10_laysMean 150 = .ok (.return_, 1) := by decide +kernel
theorem dX10_makesBeside_0 : decode cX10_makesBeside 0 = .ok (.iload_n 3, 1) := by decide +kernel
theorem dX10_makesBeside_1 : decode cX10_makesBeside 1 = .ok (.iconst 2, 1) := by decide +kernel
theorem dX10_makesBeside_2 : decode cX10_makesBeside 2 = .ok (.if_icmp .ne 34, 3) := by decide +kernel
theorem dX10_makesBeside_5 : decode cX10_makesBeside 5 = .ok (.aload_n 0, 1) := by decide +kernel
theorem dX10_makesBeside_6 : decode cX10_makesBeside 6 = .ok (.getfield 7, 3) := by decide +kernel
theorem dX10_makesBeside_9 : decode cX10_makesBeside 9 = .ok (.iload_n 1, 1) := by decide +kernel
theorem dX10_makesBeside_10 : decode cX10_makesBeside 10 = .ok (.iaload, 1) := by decide +kernel
theorem dX10_makesBeside_11 : decode cX10_makesBeside 11 = .ok (.aload_n 0, 1) := by decide +kernel
theorem dX10_makesBeside_12 : decode cX10_makesBeside 12 = .ok (.getfield 7, 3) := by decide +kernel
theorem dX10_makesBeside_15 : decode cX10_makesBeside 15 = .ok (.iload_n 2, 1) := by decide +kernel
theorem dX10_makesBeside_16 : decode cX10_makesBeside 16 = .ok (.iaload, 1) := by decide +kernel
theorem dX10_makesBeside_17 : decode cX10_makesBeside 17 = .ok (.invokestatic 108, 3) := by decide +kernel
theorem dX10_makesBeside_20 : decode cX10_makesBeside 20 = .ok (.bipush (-4), 2) := by decide +kernel
theorem dX10_makesBeside_22 : decode cX10_makesBeside 22 = .ok (.if_icmp .eq 14, 3) := by decide +kernel
theorem dX10_makesBeside_25 : decode cX10_makesBeside 25 = .ok (.aload_n 0, 1) := by decide +kernel
theorem dX10_makesBeside_26 : decode cX10_makesBeside 26 = .ok (.iload_n 1, 1) := by decide +kernel
theorem dX10_makesBeside_27 : decode cX10_makesBeside 27 = .ok (.iload_n 2, 1) := by decide +kernel
theorem dX10_makesBeside_28 : decode cX10_makesBeside 28 = .ok (.iload 4, 2) := by decide +kernel
theorem dX10_makesBeside_30 : decode cX10_makesBeside 30 = .ok (.invokevirtual 285, 3) := by decide +kernel
theorem dX10_makesBeside_33 : decode cX10_makesBeside 33 = .ok (.goto 19, 3) := by decide +kernel
theorem dX10_makesBeside_36 : decode cX10_makesBeside 36 = .ok (.aload_n 0, 1) := by decide +kernel
theorem dX10_makesBeside_37 : decode cX10_makesBeside 37 = .ok (.iload_n 3, 1) := by decide +kernel
theorem dX10_makesBeside_38 : decode cX10_makesBeside 38 = .ok (.iconst 1, 1) := by decide +kernel
theorem dX10_makesBeside_39 : decode cX10_makesBeside 39 = .ok (.if_icmp .ne 7, 3) := by decide +kernel
theorem dX10_makesBeside_42 : decode cX10_makesBeside 42 = .ok (.iload_n 2, 1) := by decide +kernel
theorem dX10_makesBeside_43 : decode cX10_makesBeside 43 = .ok (.goto 4, 3) := by decide +kernel
theorem dX10_makesBeside_46 : decode cX10_makesBeside 46 = .ok (.iload_n 1, 1) := by decide +kernel
theorem dX10_makesBeside_47 : decode cX10_makesBeside 47 = .ok (.iload 4, 2) := by decide +kernel
theorem dX10_makesBeside_49 : decode cX10_makesBeside 49 = .ok (.invokevirtual 229, 3) := by decide +kernel
theorem dX10_makesBeside_52 : decode cX10_makesBeside 52 = .ok (.return_, 1) := by decide +kernel
theorem dX10_join_0 : decode cX10_join 0 = .ok (.iload_n 1, 1) := by decide +kernel
theorem dX10_join_1 : decode cX10_join 1 = .ok (.invokestatic 141, 3) := by decide +kernel
theorem dX10_join_4 : decode cX10_join 4 = .ok (.ifCond .eq 15, 3) := by decide +kernel
theorem dX10_join_7 : decode cX10_join 7 = .ok (.iload_n 2, 1) := by decide +kernel
theorem dX10_join_8 : decode cX10_join 8 = .ok (.i2l, 1) := by decide +kernel
theorem dX10_join_9 : decode cX10_join 9 = .ok (.lconst 0, 1) := by decide +kernel
theorem dX10_join_10 : decode cX10_join 10 = .ok (.ldc2_w 288, 3) := by decide +kernel
theorem dX10_join_13 : decode cX10_join 13 = .ok (.invokestatic 72, 3) := by decide +kernel
theorem dX10_join_16 : decode cX10_join 16 = .ok (.ifCond .ne 5, 3) := by decide +kernel
theorem dX10_join_19 : decode cX10_join 19 = .ok (.iconst (-1), 1) := by decide +kernel
theorem dX10_join_20 : decode cX10_join 20 = .ok (.ireturn, 1) := by decide +kernel
theorem dX10_join_21 : decode cX10_join 21 = .ok (.aload_n 0, 1) := by decide +kernel
theorem dX10_join_22 : decode cX10_join 22 = .ok (.getfield 258, 3) := by decide +kernel
theorem dX10_join_25 : decode cX10_join 25 = .ok (.ifCond .ne 6, 3) := by decide +kernel
theorem dX10_join_28 : decode cX10_join 28 = .ok (.bipush (-2), 2) := by decide +kernel
theorem dX10_join_30 : decode cX10_join 30 = .ok (.ireturn, 1) := by decide +kernel
theorem dX10_join_31 : decode cX10_join 31 = .ok (.aload_n 0, 1) := by decide +kernel
theorem dX10_join_32 : decode cX10_join 32 = .ok (.getfield 233, 3) := by decide +kernel
theorem dX10_join_35 : decode cX10_join 35 = .ok (.aload_n 0, 1) := by decide +kernel
theorem dX10_join_36 : decode cX10_join 36 = .ok (.invokevirtual 271, 3) := by decide +kernel
theorem dX10_join_39 : decode cX10_join 39 = .ok (.isub, 1) := by decide +kernel
theorem dX10_join_40 : decode cX10_join 40 = .ok (.bipush 20, 2) := by decide +kernel
theorem dX10_join_42 : decode cX10_join 42 = .ok (.if_icmp .le 6, 3) := by decide +kernel
theorem dX10_join_45 : decode cX10_join 45 = .ok (.bipush (-3), 2) := by decide +kernel
theorem dX10_join_47 : decode cX10_join 47 = .ok (.ireturn, 1) := by decide +kernel
theorem dX10_join_48 : decode cX10_join 48 = .ok (.iconst 0, 1) := by decide +kernel
theorem dX10_join_49 : decode cX10_join 49 = .ok (.istore_n 3, 1) := by decide +kernel
theorem dX10_join_50 : decode cX10_join 50 = .ok (.iconst 0, 1) := by decide +kernel
theorem dX10_join_51 : decode cX10_join 51 = .ok (.istore 4, 2) := by decide +kernel
theorem dX10_join_53 : decode cX10_join 53 = .ok (.iload 4, 2) := by decide +kernel
theorem dX10_join_55 : decode cX10_join 55 = .ok (.aload_n 0, 1) := by decide +kernel
theorem dX10_join_56 : decode cX10_join 56 = .ok (.getfield 233, 3) := by decide +kernel
theorem dX10_join_59 : decode cX10_join 59 = .ok (.if_icmp .ge 131, 3) := by decide +kernel
theorem dX10_join_62 : decode cX10_join 62 = .ok (.sipush 520, 3) := by decide +kernel
theorem dX10_join_65 : decode cX10_join 65 = .ok (.iload_n 3, 1) := by decide +kernel
theorem dX10_join_66 : decode cX10_join 66 = .ok (.iadd, 1) := by decide +kernel
theorem dX10_join_67 : decode cX10_join 67 = .ok (.istore 5, 2) := by decide +kernel
theorem dX10_join_69 : decode cX10_join 69 = .ok (.aload_n 0, 1) := by decide +kernel
theorem dX10_join_70 : decode cX10_join 70 = .ok (.getfield 36, 3) := by decide +kernel
theorem dX10_join_73 : decode cX10_join 73 = .ok (.iload 4, 2) := by decide +kernel
theorem dX10_join_75 : decode cX10_join 75 = .ok (.iaload, 1) := by decide +kernel
theorem dX10_join_76 : decode cX10_join 76 = .ok (.ifCond .ne 35, 3) := by decide +kernel
theorem dX10_join_79 : decode cX10_join 79 = .ok (.aload_n 0, 1) := by decide +kernel
theorem dX10_join_80 : decode cX10_join 80 = .ok (.sipush 480, 3) := by decide +kernel
theorem dX10_join_83 : decode cX10_join 83 = .ok (.aload_n 0, 1) := by decide +kernel
theorem dX10_join_84 : decode cX10_join 84 = .ok (.getfield 39, 3) := by decide +kernel
theorem dX10_join_87 : decode cX10_join 87 = .ok (.iload 4, 2) := by decide +kernel
theorem dX10_join_89 : decode cX10_join 89 = .ok (.iaload, 1) := by decide +kernel
theorem dX10_join_90 : decode cX10_join 90 = .ok (.iadd, 1) := by decide +kernel
theorem dX10_join_91 : decode cX10_join 91 = .ok (.sipush 500, 3) := by decide +kernel
theorem dX10_join_94 : decode cX10_join 94 = .ok (.aload_n 0, 1) := by decide +kernel
theorem dX10_join_95 : decode cX10_join 95 = .ok (.getfield 42, 3) := by decide +kernel
theorem dX10_join_98 : decode cX10_join 98 = .ok (.iload 4, 2) := by decide +kernel
theorem dX10_join_100 : decode cX10_join 100 = .ok (.iaload, 1) := by decide +kernel
theorem dX10_join_101 : decode cX10_join 101 = .ok (.iadd, 1) := by decide +kernel
theorem dX10_join_102 : decode cX10_join 102 = .ok (.iload_n 2, 1) := by decide +kernel
theorem dX10_join_103 : decode cX10_join 103 = .ok (.iload 5, 2) := by decide +kernel
theorem dX10_join_105 : decode cX10_join 105 = .ok (.invokevirtual 290, 3) := by decide +kernel
theorem dX10_join_108 : decode cX10_join 108 = .ok (.goto 55, 3) := by decide +kernel
theorem dX10_join_111 : decode cX10_join 111 = .ok (.aload_n 0, 1) := by decide +kernel
theorem dX10_join_112 : decode cX10_join 112 = .ok (.getfield 48, 3) := by decide +kernel
theorem dX10_join_115 : decode cX10_join 115 = .ok (.iload 4, 2) := by decide +kernel
theorem dX10_join_117 : decode cX10_join 117 = .ok (.baload, 1) := by decide +kernel
theorem dX10_join_118 : decode cX10_join 118 = .ok (.ifCond .ne 45, 3) := by decide +kernel
theorem dX10_join_121 : decode cX10_join 121 = .ok (.aload_n 0, 1) := by decide +kernel
theorem dX10_join_122 : decode cX10_join 122 = .ok (.aload_n 0, 1) := by decide +kernel
theorem dX10_join_123 : decode cX10_join 123 = .ok (.getfield 36, 3) := by decide +kernel
theorem dX10_join_126 : decode cX10_join 126 = .ok (.iload 4, 2) := by decide +kernel
theorem dX10_join_128 : decode cX10_join 128 = .ok (.iaload, 1) := by decide +kernel
theorem dX10_join_129 : decode cX10_join 129 = .ok (.iconst 1, 1) := by decide +kernel
theorem dX10_join_130 : decode cX10_join 130 = .ok (.if_icmp .ne 17, 3) := by decide +kernel
theorem dX10_join_133 : decode cX10_join 133 = .ok (.sipush 480, 3) := by decide +kernel
theorem dX10_join_136 : decode cX10_join 136 = .ok (.aload_n 0, 1) := by decide +kernel
theorem dX10_join_137 : decode cX10_join 137 = .ok (.getfield 39, 3) := by decide +kernel
theorem dX10_join_140 : decode cX10_join 140 = .ok (.iload 4, 2) := by decide +kernel
theorem dX10_join_142 : decode cX10_join 142 = .ok (.iaload, 1) := by decide +kernel
theorem dX10_join_143 : decode cX10_join 143 = .ok (.iadd, 1) := by decide +kernel
theorem dX10_join_144 : decode cX10_join 144 = .ok (.goto 14, 3) := by decide +kernel
theorem dX10_join_147 : decode cX10_join 147 = .ok (.sipush 500, 3) := by decide +kernel
theorem dX10_join_150 : decode cX10_join 150 = .ok (.aload_n 0, 1) := by decide +kernel
theorem dX10_join_151 : decode cX10_join 151 = .ok (.getfield 42, 3) := by decide +kernel
theorem dX10_join_154 : decode cX10_join 154 = .ok (.iload 4, 2) := by decide +kernel
theorem dX10_join_156 : decode cX10_join 156 = .ok (.iaload, 1) := by decide +kernel
theorem dX10_join_157 : decode cX10_join 157 = .ok (.iadd, 1) := by decide +kernel
theorem dX10_join_158 : decode cX10_join 158 = .ok (.iload 5, 2) := by decide +kernel
theorem dX10_join_160 : decode cX10_join 160 = .ok (.invokevirtual 229, 3) := by decide +kernel
theorem dX10_join_163 : decode cX10_join 163 = .ok (.iload_n 3, 1) := by decide +kernel
theorem dX10_join_164 : decode cX10_join 164 = .ok (.aload_n 0, 1) := by decide +kernel
theorem dX10_join_165 : decode cX10_join 165 = .ok (.getfield 48, 3) := by decide +kernel
theorem dX10_join_168 : decode cX10_join 168 = .ok (.iload 4, 2) := by decide +kernel
theorem dX10_join_170 : decode cX10_join 170 = .ok (.baload, 1) := by decide +kernel
theorem dX10_join_171 : decode cX10_join 171 = .ok (.ifCond .ne 7, 3) := by decide +kernel
theorem dX10_join_174 : decode cX10_join 174 = .ok (.iconst 1, 1) := by decide +kernel
theorem dX10_join_175 : decode cX10_join 175 = .ok (.goto 4, 3) := by decide +kernel
theorem dX10_join_178 : decode cX10_join 178 = .ok (.iconst 0, 1) := by decide +kernel
theorem dX10_join_179 : decode cX10_join 179 = .ok (.invokestatic 200, 3) := by decide +kernel
theorem dX10_join_182 : decode cX10_join 182 = .ok (.iadd, 1) := by decide +kernel
theorem dX10_join_183 : decode cX10_join 183 = .ok (.istore_n 3, 1) := by decide +kernel
theorem dX10_join_184 : decode cX10_join 184 = .ok (.iinc 4 1, 3) := by decide +kernel
theorem dX10_join_187 : decode cX10_join 187 = .ok (.goto (-134), 3) := by decide +kernel
theorem dX10_join_190 : decode cX10_join 190 = .ok (.aload_n 0, 1) := by decide +kernel
theorem dX10_join_191 : decode cX10_join 191 = .ok (.iload_n 1, 1) := by decide +kernel
theorem dX10_join_192 : decode cX10_join 192 = .ok (.aload_n 0, 1) := by decide +kernel
theorem dX10_join_193 : decode cX10_join 193 = .ok (.invokevirtual 275, 3) := by decide +kernel
theorem dX10_join_196 : decode cX10_join 196 = .ok (.iload_n 3, 1) := by decide +kernel
theorem dX10_join_197 : decode cX10_join 197 = .ok (.invokevirtual 293, 3) := by decide +kernel
theorem dX10_join_200 : decode cX10_join 200 = .ok (.iload_n 3, 1) := by decide +kernel
theorem dX10_join_201 : decode cX10_join 201 = .ok (.ireturn, 1) := by decide +kernel
theorem dX10_near_0 : decode cX10_near 0 = .ok (.iload_n 1, 1) := by decide +kernel
theorem dX10_near_1 : decode cX10_near 1 = .ok (.invokestatic 141, 3) := by decide +kernel
theorem dX10_near_4 : decode cX10_near 4 = .ok (.ifCond .ne 5, 3) := by decide +kernel
theorem dX10_near_7 : decode cX10_near 7 = .ok (.iconst (-1), 1) := by decide +kernel
theorem dX10_near_8 : decode cX10_near 8 = .ok (.ireturn, 1) := by decide +kernel
theorem dX10_near_9 : decode cX10_near 9 = .ok (.aload_n 0, 1) := by decide +kernel
theorem dX10_near_10 : decode cX10_near 10 = .ok (.iload_n 1, 1) := by decide +kernel
theorem dX10_near_11 : decode cX10_near 11 = .ok (.invokevirtual 124, 3) := by decide +kernel
theorem dX10_near_14 : decode cX10_near 14 = .ok (.ifCond .le 12, 3) := by decide +kernel
theorem dX10_near_17 : decode cX10_near 17 = .ok (.bipush (-10), 2) := by decide +kernel
theorem dX10_near_19 : decode cX10_near 19 = .ok (.aload_n 0, 1) := by decide +kernel
theorem dX10_near_20 : decode cX10_near 20 = .ok (.iload_n 1, 1) := by decide +kernel
theorem dX10_near_21 : decode cX10_near 21 = .ok (.invokevirtual 124, 3) := by decide +kernel
theorem dX10_near_24 : decode cX10_near 24 = .ok (.isub, 1) := by decide +kernel
theorem dX10_near_25 : decode cX10_near 25 = .ok (.ireturn, 1) := by decide +kernel
theorem dX10_near_26 : decode cX10_near 26 = .ok (.bipush (-4), 2) := by decide +kernel
theorem dX10_near_28 : decode cX10_near 28 = .ok (.istore_n 2, 1) := by decide +kernel
theorem dX10_near_29 : decode cX10_near 29 = .ok (.iconst 0, 1) := by decide +kernel
theorem dX10_near_30 : decode cX10_near 30 = .ok (.istore_n 3, 1) := by decide +kernel
theorem dX10_near_31 : decode cX10_near 31 = .ok (.iconst 0, 1) := by decide +kernel
theorem dX10_near_32 : decode cX10_near 32 = .ok (.istore 4, 2) := by decide +kernel
theorem dX10_near_34 : decode cX10_near 34 = .ok (.iload 4, 2) := by decide +kernel
theorem dX10_near_36 : decode cX10_near 36 = .ok (.bipush 8, 2) := by decide +kernel
theorem dX10_near_38 : decode cX10_near 38 = .ok (.if_icmp .ge 62, 3) := by decide +kernel
theorem dX10_near_41 : decode cX10_near 41 = .ok (.iload 4, 2) := by decide +kernel
theorem dX10_near_43 : decode cX10_near 43 = .ok (.iload_n 1, 1) := by decide +kernel
theorem dX10_near_44 : decode cX10_near 44 = .ok (.if_icmp .eq 50, 3) := by decide +kernel
theorem dX10_near_47 : decode cX10_near 47 = .ok (.aload_n 0, 1) := by decide +kernel
theorem dX10_near_48 : decode cX10_near 48 = .ok (.getfield 27, 3) := by decide +kernel
theorem dX10_near_51 : decode cX10_near 51 = .ok (.iload 4, 2) := by decide +kernel
theorem dX10_near_53 : decode cX10_near 53 = .ok (.iaload, 1) := by decide +kernel
theorem dX10_near_54 : decode cX10_near 54 = .ok (.ifCond .lt 40, 3) := by decide +kernel
theorem dX10_near_57 : decode cX10_near 57 = .ok (.aload_n 0, 1) := by decide +kernel
theorem dX10_near_58 : decode cX10_near 58 = .ok (.aload_n 0, 1) := by decide +kernel
theorem dX10_near_59 : decode cX10_near 59 = .ok (.getfield 27, 3) := by decide +kernel
theorem dX10_near_62 : decode cX10_near 62 = .ok (.iload_n 1, 1) := by decide +kernel
theorem dX10_near_63 : decode cX10_near 63 = .ok (.iaload, 1) := by decide +kernel
theorem dX10_near_64 : decode cX10_near 64 = .ok (.aload_n 0, 1) := by decide +kernel
theorem dX10_near_65 : decode cX10_near 65 = .ok (.getfield 27, 3) := by decide +kernel
theorem dX10_near_68 : decode cX10_near 68 = .ok (.iload 4, 2) := by decide +kernel
theorem dX10_near_70 : decode cX10_near 70 = .ok (.iaload, 1) := by decide +kernel
theorem dX10_near_71 : decode cX10_near 71 = .ok (.invokevirtual 246, 3) := by decide +kernel
theorem dX10_near_74 : decode cX10_near 74 = .ok (.istore 5, 2) := by decide +kernel
theorem dX10_near_76 : decode cX10_near 76 = .ok (.iload_n 2, 1) := by decide +kernel
theorem dX10_near_77 : decode cX10_near 77 = .ok (.bipush (-4), 2) := by decide +kernel
theorem dX10_near_79 : decode cX10_near 79 = .ok (.if_icmp .eq 9, 3) := by decide +kernel
theorem dX10_near_82 : decode cX10_near 82 = .ok (.iload 5, 2) := by decide +kernel
theorem dX10_near_84 : decode cX10_near 84 = .ok (.iload_n 3, 1) := by decide +kernel
theorem dX10_near_85 : decode cX10_near 85 = .ok (.if_icmp .ge 9, 3) := by decide +kernel
theorem dX10_near_88 : decode cX10_near 88 = .ok (.iload 4, 2) := by decide +kernel
theorem dX10_near_90 : decode cX10_near 90 = .ok (.istore_n 2, 1) := by decide +kernel
theorem dX10_near_91 : decode cX10_near 91 = .ok (.iload 5, 2) := by decide +kernel
theorem dX10_near_93 : decode cX10_near 93 = .ok (.istore_n 3, 1) := by decide +kernel
theorem dX10_near_94 : decode cX10_near 94 = .ok (.iinc 4 1, 3) := by decide +kernel
theorem dX10_near_97 : decode cX10_near 97 = .ok (.goto (-63), 3) := by decide +kernel
theorem dX10_near_100 : decode cX10_near 100 = .ok (.iload_n 2, 1) := by decide +kernel
theorem dX10_near_101 : decode cX10_near 101 = .ok (.ireturn, 1) := by decide +kernel
theorem dX10_alikeBy_0 : decode cX10_alikeBy 0 = .ok (.iconst 0, 1) := by decide +kernel
theorem dX10_alikeBy_1 : decode cX10_alikeBy 1 = .ok (.istore 4, 2) := by decide +kernel
theorem dX10_alikeBy_3 : decode cX10_alikeBy 3 = .ok (.iconst 0, 1) := by decide +kernel
theorem dX10_alikeBy_4 : decode cX10_alikeBy 4 = .ok (.istore 5, 2) := by decide +kernel
theorem dX10_alikeBy_6 : decode cX10_alikeBy 6 = .ok (.iload 5, 2) := by decide +kernel
theorem dX10_alikeBy_8 : decode cX10_alikeBy 8 = .ok (.aload_n 0, 1) := by decide +kernel
theorem dX10_alikeBy_9 : decode cX10_alikeBy 9 = .ok (.iload_n 1, 1) := by decide +kernel
theorem dX10_alikeBy_10 : decode cX10_alikeBy 10 = .ok (.invokevirtual 152, 3) := by decide +kernel
theorem dX10_alikeBy_13 : decode cX10_alikeBy 13 = .ok (.if_icmp .ge 65, 3) := by decide +kernel
theorem dX10_alikeBy_16 : decode cX10_alikeBy 16 = .ok (.iload 4, 2) := by decide +kernel
theorem dX10_alikeBy_18 : decode cX10_alikeBy 18 = .ok (.iload 5, 2) := by decide +kernel
theorem dX10_alikeBy_20 : decode cX10_alikeBy 20 = .ok (.iload_n 3, 1) := by decide +kernel
theorem dX10_alikeBy_21 : decode cX10_alikeBy 21 = .ok (.iadd, 1) := by decide +kernel
theorem dX10_alikeBy_22 : decode cX10_alikeBy 22 = .ok (.i2l, 1) := by decide +kernel
theorem dX10_alikeBy_23 : decode cX10_alikeBy 23 = .ok (.lconst 0, 1) := by decide +kernel
theorem dX10_alikeBy_24 : decode cX10_alikeBy 24 = .ok (.aload_n 0, 1) := by decide +kernel
theorem dX10_alikeBy_25 : decode cX10_alikeBy 25 = .ok (.iload_n 2, 1) := by decide +kernel
theorem dX10_alikeBy_26 : decode cX10_alikeBy 26 = .ok (.invokevirtual 152, 3) := by decide +kernel
theorem dX10_alikeBy_29 : decode cX10_alikeBy 29 = .ok (.iconst 1, 1) := by decide +kernel
theorem dX10_alikeBy_30 : decode cX10_alikeBy 30 = .ok (.isub, 1) := by decide +kernel
theorem dX10_alikeBy_31 : decode cX10_alikeBy 31 = .ok (.i2l, 1) := by decide +kernel
theorem dX10_alikeBy_32 : decode cX10_alikeBy 32 = .ok (.invokestatic 72, 3) := by decide +kernel
theorem dX10_alikeBy_35 : decode cX10_alikeBy 35 = .ok (.ifCond .eq 30, 3) := by decide +kernel
theorem dX10_alikeBy_38 : decode cX10_alikeBy 38 = .ok (.aload_n 0, 1) := by decide +kernel
theorem dX10_alikeBy_39 : decode cX10_alikeBy 39 = .ok (.aload_n 0, 1) := by decide +kernel
theorem dX10_alikeBy_40 : decode cX10_alikeBy 40 = .ok (.iload_n 1, 1) := by decide +kernel
theorem dX10_alikeBy_41 : decode cX10_alikeBy 41 = .ok (.iload 5, 2) := by decide +kernel
theorem dX10_alikeBy_43 : decode cX10_alikeBy 43 = .ok (.invokevirtual 135, 3) := by decide +kernel
theorem dX10_alikeBy_46 : decode cX10_alikeBy 46 = .ok (.aload_n 0, 1) := by decide +kernel
theorem dX10_alikeBy_47 : decode cX10_alikeBy 47 = .ok (.iload_n 2, 1) := by decide +kernel
theorem dX10_alikeBy_48 : decode cX10_alikeBy 48 = .ok (.iload 5, 2) := by decide +kernel
theorem dX10_alikeBy_50 : decode cX10_alikeBy 50 = .ok (.iload_n 3, 1) := by decide +kernel
theorem dX10_alikeBy_51 : decode cX10_alikeBy 51 = .ok (.iadd, 1) := by decide +kernel
theorem dX10_alikeBy_52 : decode cX10_alikeBy 52 = .ok (.invokevirtual 135, 3) := by decide +kernel
theorem dX10_alikeBy_55 : decode cX10_alikeBy 55 = .ok (.invokevirtual 112, 3) := by decide +kernel
theorem dX10_alikeBy_58 : decode cX10_alikeBy 58 = .ok (.ifCond .eq 7, 3) := by decide +kernel
theorem dX10_alikeBy_61 : decode cX10_alikeBy 61 = .ok (.iconst 1, 1) := by decide +kernel
theorem dX10_alikeBy_62 : decode cX10_alikeBy 62 = .ok (.goto 4, 3) := by decide +kernel
theorem dX10_alikeBy_65 : decode cX10_alikeBy 65 = .ok (.iconst 0, 1) := by decide +kernel
theorem dX10_alikeBy_66 : decode cX10_alikeBy 66 = .ok (.invokestatic 200, 3) := by decide +kernel
theorem dX10_alikeBy_69 : decode cX10_alikeBy 69 = .ok (.iadd, 1) := by decide +kernel
theorem dX10_alikeBy_70 : decode cX10_alikeBy 70 = .ok (.istore 4, 2) := by decide +kernel
theorem dX10_alikeBy_72 : decode cX10_alikeBy 72 = .ok (.iinc 5 1, 3) := by decide +kernel
theorem dX10_alikeBy_75 : decode cX10_alikeBy 75 = .ok (.goto (-69), 3) := by decide +kernel
theorem dX10_alikeBy_78 : decode cX10_alikeBy 78 = .ok (.iload 4, 2) := by decide +kernel
theorem dX10_alikeBy_80 : decode cX10_alikeBy 80 = .ok (.ireturn, 1) := by decide +kernel
theorem dX10_lag_0 : decode cX10_lag 0 = .ok (.iload_n 1, 1) := by decide +kernel
theorem dX10_lag_1 : decode cX10_lag 1 = .ok (.invokestatic 141, 3) := by decide +kernel
theorem dX10_lag_4 : decode cX10_lag 4 = .ok (.ifCond .eq 10, 3) := by decide +kernel
theorem dX10_lag_7 : decode cX10_lag 7 = .ok (.iload_n 2, 1) := by decide +kernel
theorem dX10_lag_8 : decode cX10_lag 8 = .ok (.invokestatic 141, 3) := by decide +kernel
theorem dX10_lag_11 : decode cX10_lag 11 = .ok (.ifCond .ne 5, 3) := by decide +kernel
theorem dX10_lag_14 : decode cX10_lag 14 = .ok (.iconst (-1), 1) := by decide +kernel
theorem dX10_lag_15 : decode cX10_lag 15 = .ok (.ireturn, 1) := by decide +kernel
theorem dX10_lag_16 : decode cX10_lag 16 = .ok (.aload_n 0, 1) := by decide +kernel
theorem dX10_lag_17 : decode cX10_lag 17 = .ok (.iload_n 1, 1) := by decide +kernel
theorem dX10_lag_18 : decode cX10_lag 18 = .ok (.iload_n 2, 1) := by decide +kernel
theorem dX10_lag_19 : decode cX10_lag 19 = .ok (.invokevirtual 240, 3) := by decide +kernel
theorem dX10_lag_22 : decode cX10_lag 22 = .ok (.ifCond .le 13, 3) := by decide +kernel
theorem dX10_lag_25 : decode cX10_lag 25 = .ok (.bipush (-10), 2) := by decide +kernel
theorem dX10_lag_27 : decode cX10_lag 27 = .ok (.aload_n 0, 1) := by decide +kernel
theorem dX10_lag_28 : decode cX10_lag 28 = .ok (.iload_n 1, 1) := by decide +kernel
theorem dX10_lag_29 : decode cX10_lag 29 = .ok (.iload_n 2, 1) := by decide +kernel
theorem dX10_lag_30 : decode cX10_lag 30 = .ok (.invokevirtual 240, 3) := by decide +kernel
theorem dX10_lag_33 : decode cX10_lag 33 = .ok (.isub, 1) := by decide +kernel
theorem dX10_lag_34 : decode cX10_lag 34 = .ok (.ireturn, 1) := by decide +kernel
theorem dX10_lag_35 : decode cX10_lag 35 = .ok (.iconst 0, 1) := by decide +kernel
theorem dX10_lag_36 : decode cX10_lag 36 = .ok (.istore_n 3, 1) := by decide +kernel
theorem dX10_lag_37 : decode cX10_lag 37 = .ok (.aload_n 0, 1) := by decide +kernel
theorem dX10_lag_38 : decode cX10_lag 38 = .ok (.iload_n 1, 1) := by decide +kernel
theorem dX10_lag_39 : decode cX10_lag 39 = .ok (.iload_n 2, 1) := by decide +kernel
theorem dX10_lag_40 : decode cX10_lag 40 = .ok (.iconst 0, 1) := by decide +kernel
theorem dX10_lag_41 : decode cX10_lag 41 = .ok (.invokevirtual 296, 3) := by decide +kernel
theorem dX10_lag_44 : decode cX10_lag 44 = .ok (.istore 4, 2) := by decide +kernel
theorem dX10_lag_46 : decode cX10_lag 46 = .ok (.iconst 1, 1) := by decide +kernel
theorem dX10_lag_47 : decode cX10_lag 47 = .ok (.istore 5, 2) := by decide +kernel
theorem dX10_lag_49 : decode cX10_lag 49 = .ok (.iload 5, 2) := by decide +kernel
theorem dX10_lag_51 : decode cX10_lag 51 = .ok (.bipush 20, 2) := by decide +kernel
theorem dX10_lag_53 : decode cX10_lag 53 = .ok (.if_icmp .ge 79, 3) := by decide +kernel
theorem dX10_lag_56 : decode cX10_lag 56 = .ok (.iconst 0, 1) := by decide +kernel
theorem dX10_lag_57 : decode cX10_lag 57 = .ok (.istore 6, 2) := by decide +kernel
theorem dX10_lag_59 : decode cX10_lag 59 = .ok (.iload 6, 2) := by decide +kernel
theorem dX10_lag_61 : decode cX10_lag 61 = .ok (.iconst 2, 1) := by decide +kernel
theorem dX10_lag_62 : decode cX10_lag 62 = .ok (.if_icmp .ge 64, 3) := by decide +kernel
theorem dX10_lag_65 : decode cX10_lag 65 = .ok (.iload 6, 2) := by decide +kernel
theorem dX10_lag_67 : decode cX10_lag 67 = .ok (.ifCond .ne 9, 3) := by decide +kernel
theorem dX10_lag_70 : decode cX10_lag 70 = .ok (.iload 5, 2) := by decide +kernel
theorem dX10_lag_72 : decode cX10_lag 72 = .ok (.ineg, 1) := by decide +kernel
theorem dX10_lag_73 : decode cX10_lag 73 = .ok (.goto 5, 3) := by decide +kernel
theorem dX10_lag_76 : decode cX10_lag 76 = .ok (.iload 5, 2) := by decide +kernel
theorem dX10_lag_78 : decode cX10_lag 78 = .ok (.istore 7, 2) := by decide +kernel
theorem dX10_lag_80 : decode cX10_lag 80 = .ok (.aload_n 0, 1) := by decide +kernel
theorem dX10_lag_81 : decode cX10_lag 81 = .ok (.iload_n 1, 1) := by decide +kernel
theorem dX10_lag_82 : decode cX10_lag 82 = .ok (.iload_n 2, 1) := by decide +kernel
theorem dX10_lag_83 : decode cX10_lag 83 = .ok (.iload 7, 2) := by decide +kernel
theorem dX10_lag_85 : decode cX10_lag 85 = .ok (.invokevirtual 296, 3) := by decide +kernel
theorem dX10_lag_88 : decode cX10_lag 88 = .ok (.istore 8, 2) := by decide +kernel
theorem dX10_lag_90 : decode cX10_lag 90 = .ok (.iload 8, 2) := by decide +kernel
theorem dX10_lag_92 : decode cX10_lag 92 = .ok (.iload 4, 2) := by decide +kernel
theorem dX10_lag_94 : decode cX10_lag 94 = .ok (.if_icmp .le 8, 3) := by decide +kernel
theorem dX10_lag_97 : decode cX10_lag 97 = .ok (.iload 7, 2) := by decide +kernel
theorem dX10_lag_99 : decode cX10_lag 99 = .ok (.goto 4, 3) := by decide +kernel
theorem dX10_lag_102 : decode cX10_lag 102 = .ok (.iload_n 3, 1) := by decide +kernel
theorem dX10_lag_103 : decode cX10_lag 103 = .ok (.istore_n 3, 1) := by decide +kernel
theorem dX10_lag_104 : decode cX10_lag 104 = .ok (.iload 8, 2) := by decide +kernel
theorem dX10_lag_106 : decode cX10_lag 106 = .ok (.iload 4, 2) := by decide +kernel
theorem dX10_lag_108 : decode cX10_lag 108 = .ok (.if_icmp .le 8, 3) := by decide +kernel
theorem dX10_lag_111 : decode cX10_lag 111 = .ok (.iload 8, 2) := by decide +kernel
theorem dX10_lag_113 : decode cX10_lag 113 = .ok (.goto 5, 3) := by decide +kernel
theorem dX10_lag_116 : decode cX10_lag 116 = .ok (.iload 4, 2) := by decide +kernel
theorem dX10_lag_118 : decode cX10_lag 118 = .ok (.istore 4, 2) := by decide +kernel
theorem dX10_lag_120 : decode cX10_lag 120 = .ok (.iinc 6 1, 3) := by decide +kernel
theorem dX10_lag_123 : decode cX10_lag 123 = .ok (.goto (-64), 3) := by decide +kernel
theorem dX10_lag_126 : decode cX10_lag 126 = .ok (.iinc 5 1, 3) := by decide +kernel
theorem dX10_lag_129 : decode cX10_lag 129 = .ok (.goto (-80), 3) := by decide +kernel
theorem dX10_lag_132 : decode cX10_lag 132 = .ok (.iload 4, 2) := by decide +kernel
theorem dX10_lag_134 : decode cX10_lag 134 = .ok (.ifCond .ne 8, 3) := by decide +kernel
theorem dX10_lag_137 : decode cX10_lag 137 = .ok (.bipush (-4), 2) := by decide +kernel
theorem dX10_lag_139 : decode cX10_lag 139 = .ok (.goto 7, 3) := by decide +kernel
theorem dX10_lag_142 : decode cX10_lag 142 = .ok (.bipush 100, 2) := by decide +kernel
theorem dX10_lag_144 : decode cX10_lag 144 = .ok (.iload_n 3, 1) := by decide +kernel
theorem dX10_lag_145 : decode cX10_lag 145 = .ok (.iadd, 1) := by decide +kernel
theorem dX10_lag_146 : decode cX10_lag 146 = .ok (.ireturn, 1) := by decide +kernel
theorem dX10_vote_0 : decode cX10_vote 0 = .ok (.iload_n 1, 1) := by decide +kernel
theorem dX10_vote_1 : decode cX10_vote 1 = .ok (.invokestatic 141, 3) := by decide +kernel
theorem dX10_vote_4 : decode cX10_vote 4 = .ok (.ifCond .eq 25, 3) := by decide +kernel
theorem dX10_vote_7 : decode cX10_vote 7 = .ok (.iload_n 2, 1) := by decide +kernel
theorem dX10_vote_8 : decode cX10_vote 8 = .ok (.invokestatic 141, 3) := by decide +kernel
theorem dX10_vote_11 : decode cX10_vote 11 = .ok (.ifCond .eq 18, 3) := by decide +kernel
theorem dX10_vote_14 : decode cX10_vote 14 = .ok (.iload_n 3, 1) := by decide +kernel
theorem dX10_vote_15 : decode cX10_vote 15 = .ok (.invokestatic 141, 3) := by decide +kernel
theorem dX10_vote_18 : decode cX10_vote 18 = .ok (.ifCond .eq 11, 3) := by decide +kernel
theorem dX10_vote_21 : decode cX10_vote 21 = .ok (.iload 4, 2) := by decide +kernel
theorem dX10_vote_23 : decode cX10_vote 23 = .ok (.invokestatic 141, 3) := by decide +kernel
theorem dX10_vote_26 : decode cX10_vote 26 = .ok (.ifCond .ne 5, 3) := by decide +kernel
theorem dX10_vote_29 : decode cX10_vote 29 = .ok (.iconst (-1), 1) := by decide +kernel
theorem dX10_vote_30 : decode cX10_vote 30 = .ok (.ireturn, 1) := by decide +kernel
theorem dX10_vote_31 : decode cX10_vote 31 = .ok (.aload_n 0, 1) := by decide +kernel
theorem dX10_vote_32 : decode cX10_vote 32 = .ok (.iload_n 2, 1) := by decide +kernel
theorem dX10_vote_33 : decode cX10_vote 33 = .ok (.iload_n 3, 1) := by decide +kernel
theorem dX10_vote_34 : decode cX10_vote 34 = .ok (.invokevirtual 240, 3) := by decide +kernel
theorem dX10_vote_37 : decode cX10_vote 37 = .ok (.ifCond .le 12, 3) := by decide +kernel
theorem dX10_vote_40 : decode cX10_vote 40 = .ok (.aload_n 0, 1) := by decide +kernel
theorem dX10_vote_41 : decode cX10_vote 41 = .ok (.iload_n 2, 1) := by decide +kernel
theorem dX10_vote_42 : decode cX10_vote 42 = .ok (.iload_n 3, 1) := by decide +kernel
theorem dX10_vote_43 : decode cX10_vote 43 = .ok (.invokevirtual 240, 3) := by decide +kernel
theorem dX10_vote_46 : decode cX10_vote 46 = .ok (.goto 9, 3) := by decide +kernel
theorem dX10_vote_49 : decode cX10_vote 49 = .ok (.aload_n 0, 1) := by decide +kernel
theorem dX10_vote_50 : decode cX10_vote 50 = .ok (.iload 4, 2) := by decide +kernel
theorem dX10_vote_52 : decode cX10_vote 52 = .ok (.invokevirtual 124, 3) := by decide +kernel
theorem dX10_vote_55 : decode cX10_vote 55 = .ok (.istore 5, 2) := by decide +kernel
theorem dX10_vote_57 : decode cX10_vote 57 = .ok (.iload 5, 2) := by decide +kernel
theorem dX10_vote_59 : decode cX10_vote 59 = .ok (.ifCond .le 9, 3) := by decide +kernel
theorem dX10_vote_62 : decode cX10_vote 62 = .ok (.bipush (-10), 2) := by decide +kernel
theorem dX10_vote_64 : decode cX10_vote 64 = .ok (.iload 5, 2) := by decide +kernel
theorem dX10_vote_66 : decode cX10_vote 66 = .ok (.isub, 1) := by decide +kernel
theorem dX10_vote_67 : decode cX10_vote 67 = .ok (.ireturn, 1) := by decide +kernel
theorem dX10_vote_68 : decode cX10_vote 68 = .ok (.aload_n 0, 1) := by decide +kernel
theorem dX10_vote_69 : decode cX10_vote 69 = .ok (.iload_n 2, 1) := by decide +kernel
theorem dX10_vote_70 : decode cX10_vote 70 = .ok (.invokevirtual 152, 3) := by decide +kernel
theorem dX10_vote_73 : decode cX10_vote 73 = .ok (.istore 6, 2) := by decide +kernel
theorem dX10_vote_75 : decode cX10_vote 75 = .ok (.aload_n 0, 1) := by decide +kernel
theorem dX10_vote_76 : decode cX10_vote 76 = .ok (.iload_n 3, 1) := by decide +kernel
theorem dX10_vote_77 : decode cX10_vote 77 = .ok (.invokevirtual 152, 3) := by decide +kernel
theorem dX10_vote_80 : decode cX10_vote 80 = .ok (.iload 6, 2) := by decide +kernel
theorem dX10_vote_82 : decode cX10_vote 82 = .ok (.if_icmp .ne 14, 3) := by decide +kernel
theorem dX10_vote_85 : decode cX10_vote 85 = .ok (.aload_n 0, 1) := by decide +kernel
theorem dX10_vote_86 : decode cX10_vote 86 = .ok (.iload 4, 2) := by decide +kernel
theorem dX10_vote_88 : decode cX10_vote 88 = .ok (.invokevirtual 152, 3) := by decide +kernel
theorem dX10_vote_91 : decode cX10_vote 91 = .ok (.iload 6, 2) := by decide +kernel
theorem dX10_vote_93 : decode cX10_vote 93 = .ok (.if_icmp .eq 6, 3) := by decide +kernel
theorem dX10_vote_96 : decode cX10_vote 96 = .ok (.bipush (-2), 2) := by decide +kernel
theorem dX10_vote_98 : decode cX10_vote 98 = .ok (.ireturn, 1) := by decide +kernel
theorem dX10_vote_99 : decode cX10_vote 99 = .ok (.iconst 0, 1) := by decide +kernel
theorem dX10_vote_100 : decode cX10_vote 100 = .ok (.istore 7, 2) := by decide +kernel
theorem dX10_vote_102 : decode cX10_vote 102 = .ok (.iconst 0, 1) := by decide +kernel
theorem dX10_vote_103 : decode cX10_vote 103 = .ok (.istore 8, 2) := by decide +kernel
theorem dX10_vote_105 : decode cX10_vote 105 = .ok (.iload 8, 2) := by decide +kernel
theorem dX10_vote_107 : decode cX10_vote 107 = .ok (.iload 6, 2) := by decide +kernel
theorem dX10_vote_109 : decode cX10_vote 109 = .ok (.if_icmp .ge 165, 3) := by decide +kernel
theorem dX10_vote_112 : decode cX10_vote 112 = .ok (.aload_n 0, 1) := by decide +kernel
theorem dX10_vote_113 : decode cX10_vote 113 = .ok (.iload_n 2, 1) := by decide +kernel
theorem dX10_vote_114 : decode cX10_vote 114 = .ok (.iload 8, 2) := by decide +kernel
theorem dX10_vote_116 : decode cX10_vote 116 = .ok (.invokevirtual 135, 3) := by decide +kernel
theorem dX10_vote_119 : decode cX10_vote 119 = .ok (.istore 9, 2) := by decide +kernel
theorem dX10_vote_121 : decode cX10_vote 121 = .ok (.aload_n 0, 1) := by decide +kernel
theorem dX10_vote_122 : decode cX10_vote 122 = .ok (.iload_n 3, 1) := by decide +kernel
theorem dX10_vote_123 : decode cX10_vote 123 = .ok (.iload 8, 2) := by decide +kernel
theorem dX10_vote_125 : decode cX10_vote 125 = .ok (.invokevirtual 135, 3) := by decide +kernel
theorem dX10_vote_128 : decode cX10_vote 128 = .ok (.istore 10, 2) := by decide +kernel
theorem dX10_vote_130 : decode cX10_vote 130 = .ok (.aload_n 0, 1) := by decide +kernel
theorem dX10_vote_131 : decode cX10_vote 131 = .ok (.iload 9, 2) := by decide +kernel
theorem dX10_vote_133 : decode cX10_vote 133 = .ok (.iload 10, 2) := by decide +kernel
theorem dX10_vote_135 : decode cX10_vote 135 = .ok (.invokevirtual 112, 3) := by decide +kernel
theorem dX10_vote_138 : decode cX10_vote 138 = .ok (.ifCond .ne 20, 3) := by decide +kernel
theorem dX10_vote_141 : decode cX10_vote 141 = .ok (.aload_n 0, 1) := by decide +kernel
theorem dX10_vote_142 : decode cX10_vote 142 = .ok (.iload 9, 2) := by decide +kernel
theorem dX10_vote_144 : decode cX10_vote 144 = .ok (.aload_n 0, 1) := by decide +kernel
theorem dX10_vote_145 : decode cX10_vote 145 = .ok (.iload 4, 2) := by decide +kernel
theorem dX10_vote_147 : decode cX10_vote 147 = .ok (.iload 8, 2) := by decide +kernel
theorem dX10_vote_149 : decode cX10_vote 149 = .ok (.invokevirtual 135, 3) := by decide +kernel
theorem dX10_vote_152 : decode cX10_vote 152 = .ok (.invokevirtual 112, 3) := by decide +kernel
theorem dX10_vote_155 : decode cX10_vote 155 = .ok (.ifCond .eq 7, 3) := by decide +kernel
theorem dX10_vote_158 : decode cX10_vote 158 = .ok (.iconst 1, 1) := by decide +kernel
theorem dX10_vote_159 : decode cX10_vote 159 = .ok (.goto 4, 3) := by decide +kernel
theorem dX10_vote_162 : decode cX10_vote 162 = .ok (.iconst 0, 1) := by decide +kernel
theorem dX10_vote_163 : decode cX10_vote 163 = .ok (.istore 11, 2) := by decide +kernel
theorem dX10_vote_165 : decode cX10_vote 165 = .ok (.iload 11, 2) := by decide +kernel
theorem dX10_vote_167 : decode cX10_vote 167 = .ok (.ifCond .ne 24, 3) := by decide +kernel
theorem dX10_vote_170 : decode cX10_vote 170 = .ok (.aload_n 0, 1) := by decide +kernel
theorem dX10_vote_171 : decode cX10_vote 171 = .ok (.iload 10, 2) := by decide +kernel
theorem dX10_vote_173 : decode cX10_vote 173 = .ok (.aload_n 0, 1) := by decide +kernel
theorem dX10_vote_174 : decode cX10_vote 174 = .ok (.iload 4, 2) := by decide +kernel
theorem dX10_vote_176 : decode cX10_vote 176 = .ok (.iload 8, 2) := by decide +kernel
theorem dX10_vote_178 : decode cX10_vote 178 = .ok (.invokevirtual 135, 3) := by decide +kernel
theorem dX10_vote_181 : decode cX10_vote 181 = .ok (.invokevirtual 112, 3) := by decide +kernel
theorem dX10_vote_184 : decode cX10_vote 184 = .ok (.ifCond .eq 7, 3) := by decide +kernel
theorem dX10_vote_187 : decode cX10_vote 187 = .ok (.iconst 1, 1) := by decide +kernel
theorem dX10_vote_188 : decode cX10_vote 188 = .ok (.goto 4, 3) := by decide +kernel
theorem dX10_vote_191 : decode cX10_vote 191 = .ok (.iconst 0, 1) := by decide +kernel
theorem dX10_vote_192 : decode cX10_vote 192 = .ok (.istore 12, 2) := by decide +kernel
theorem dX10_vote_194 : decode cX10_vote 194 = .ok (.iload 12, 2) := by decide +kernel
theorem dX10_vote_196 : decode cX10_vote 196 = .ok (.ifCond .eq 27, 3) := by decide +kernel
theorem dX10_vote_199 : decode cX10_vote 199 = .ok (.aload_n 0, 1) := by decide +kernel
theorem dX10_vote_200 : decode cX10_vote 200 = .ok (.getfield 7, 3) := by decide +kernel
theorem dX10_vote_203 : decode cX10_vote 203 = .ok (.iload 10, 2) := by decide +kernel
theorem dX10_vote_205 : decode cX10_vote 205 = .ok (.iaload, 1) := by decide +kernel
theorem dX10_vote_206 : decode cX10_vote 206 = .ok (.aload_n 0, 1) := by decide +kernel
theorem dX10_vote_207 : decode cX10_vote 207 = .ok (.iload_n 2, 1) := by decide +kernel
theorem dX10_vote_208 : decode cX10_vote 208 = .ok (.invokevirtual 146, 3) := by decide +kernel
theorem dX10_vote_211 : decode cX10_vote 211 = .ok (.invokestatic 80, 3) := by decide +kernel
theorem dX10_vote_214 : decode cX10_vote 214 = .ok (.ifCond .ne 9, 3) := by decide +kernel
theorem dX10_vote_217 : decode cX10_vote 217 = .ok (.bipush (-20), 2) := by decide +kernel
theorem dX10_vote_219 : decode cX10_vote 219 = .ok (.iload 8, 2) := by decide +kernel
theorem dX10_vote_221 : decode cX10_vote 221 = .ok (.isub, 1) := by decide +kernel
theorem dX10_vote_222 : decode cX10_vote 222 = .ok (.ireturn, 1) := by decide +kernel
theorem dX10_vote_223 : decode cX10_vote 223 = .ok (.aload_n 0, 1) := by decide +kernel
theorem dX10_vote_224 : decode cX10_vote 224 = .ok (.iload 12, 2) := by decide +kernel
theorem dX10_vote_226 : decode cX10_vote 226 = .ok (.ifCond .eq 8, 3) := by decide +kernel
theorem dX10_vote_229 : decode cX10_vote 229 = .ok (.iload 10, 2) := by decide +kernel
theorem dX10_vote_231 : decode cX10_vote 231 = .ok (.goto 5, 3) := by decide +kernel
theorem dX10_vote_234 : decode cX10_vote 234 = .ok (.iload 9, 2) := by decide +kernel
theorem dX10_vote_236 : decode cX10_vote 236 = .ok (.sipush 520, 3) := by decide +kernel
theorem dX10_vote_239 : decode cX10_vote 239 = .ok (.iload 8, 2) := by decide +kernel
theorem dX10_vote_241 : decode cX10_vote 241 = .ok (.iadd, 1) := by decide +kernel
theorem dX10_vote_242 : decode cX10_vote 242 = .ok (.invokevirtual 229, 3) := by decide +kernel
theorem dX10_vote_245 : decode cX10_vote 245 = .ok (.iload 7, 2) := by decide +kernel
theorem dX10_vote_247 : decode cX10_vote 247 = .ok (.iload 11, 2) := by decide +kernel
theorem dX10_vote_249 : decode cX10_vote 249 = .ok (.ifCond .ne 12, 3) := by decide +kernel
theorem dX10_vote_252 : decode cX10_vote 252 = .ok (.iload 12, 2) := by decide +kernel
theorem dX10_vote_254 : decode cX10_vote 254 = .ok (.ifCond .ne 7, 3) := by decide +kernel
theorem dX10_vote_257 : decode cX10_vote 257 = .ok (.iconst 1, 1) := by decide +kernel
theorem dX10_vote_258 : decode cX10_vote 258 = .ok (.goto 4, 3) := by decide +kernel
theorem dX10_vote_261 : decode cX10_vote 261 = .ok (.iconst 0, 1) := by decide +kernel
theorem dX10_vote_262 : decode cX10_vote 262 = .ok (.invokestatic 200, 3) := by decide +kernel
theorem dX10_vote_265 : decode cX10_vote 265 = .ok (.iadd, 1) := by decide +kernel
theorem dX10_vote_266 : decode cX10_vote 266 = .ok (.istore 7, 2) := by decide +kernel
theorem dX10_vote_268 : decode cX10_vote 268 = .ok (.iinc 8 1, 3) := by decide +kernel
theorem dX10_vote_271 : decode cX10_vote 271 = .ok (.goto (-166), 3) := by decide +kernel
theorem dX10_vote_274 : decode cX10_vote 274 = .ok (.aload_n 0, 1) := by decide +kernel
theorem dX10_vote_275 : decode cX10_vote 275 = .ok (.iload_n 1, 1) := by decide +kernel
theorem dX10_vote_276 : decode cX10_vote 276 = .ok (.aload_n 0, 1) := by decide +kernel
theorem dX10_vote_277 : decode cX10_vote 277 = .ok (.iload_n 2, 1) := by decide +kernel
theorem dX10_vote_278 : decode cX10_vote 278 = .ok (.invokevirtual 146, 3) := by decide +kernel
theorem dX10_vote_281 : decode cX10_vote 281 = .ok (.iload 6, 2) := by decide +kernel
theorem dX10_vote_283 : decode cX10_vote 283 = .ok (.invokevirtual 293, 3) := by decide +kernel
theorem dX10_vote_286 : decode cX10_vote 286 = .ok (.iload 7, 2) := by decide +kernel
theorem dX10_vote_288 : decode cX10_vote 288 = .ok (.ireturn, 1) := by decide +kernel
theorem dX10_isPatchNumber_0 : decode cX10_isPatchNumber 0 = .ok (.iload_n 0, 1) := by decide +kernel
theorem dX10_isPatchNumber_1 : decode cX10_isPatchNumber 1 = .ok (.i2l, 1) := by decide +kernel
theorem dX10_isPatchNumber_2 : decode cX10_isPatchNumber 2 = .ok (.lconst 0, 1) := by decide +kernel
theorem dX10_isPatchNumber_3 : decode cX10_isPatchNumber 3 = .ok (.ldc2_w 207, 3) := by decide +kernel
theorem dX10_isPatchNumber_6 : decode cX10_isPatchNumber 6 = .ok (.invokestatic 72, 3) := by decide +kernel
theorem dX10_isPatchNumber_9 : decode cX10_isPatchNumber 9 = .ok (.ireturn, 1) := by decide +kernel
theorem dX10_patch_0 : decode cX10_patch 0 = .ok (.iload_n 1, 1) := by decide +kernel
theorem dX10_patch_1 : decode cX10_patch 1 = .ok (.invokestatic 300, 3) := by decide +kernel
theorem dX10_patch_4 : decode cX10_patch 4 = .ok (.ifCond .ne 5, 3) := by decide +kernel
theorem dX10_patch_7 : decode cX10_patch 7 = .ok (.iconst (-1), 1) := by decide +kernel
theorem dX10_patch_8 : decode cX10_patch 8 = .ok (.ireturn, 1) := by decide +kernel
theorem dX10_patch_9 : decode cX10_patch 9 = .ok (.aload_n 0, 1) := by decide +kernel
theorem dX10_patch_10 : decode cX10_patch 10 = .ok (.getfield 258, 3) := by decide +kernel
theorem dX10_patch_13 : decode cX10_patch 13 = .ok (.ifCond .ne 6, 3) := by decide +kernel
theorem dX10_patch_16 : decode cX10_patch 16 = .ok (.bipush (-2), 2) := by decide +kernel
theorem dX10_patch_18 : decode cX10_patch 18 = .ok (.ireturn, 1) := by decide +kernel
theorem dX10_patch_19 : decode cX10_patch 19 = .ok (.iconst 0, 1) := by decide +kernel
theorem dX10_patch_20 : decode cX10_patch 20 = .ok (.istore_n 2, 1) := by decide +kernel
theorem dX10_patch_21 : decode cX10_patch 21 = .ok (.iconst 0, 1) := by decide +kernel
theorem dX10_patch_22 : decode cX10_patch 22 = .ok (.istore_n 3, 1) := by decide +kernel
theorem dX10_patch_23 : decode cX10_patch 23 = .ok (.iload_n 3, 1) := by decide +kernel
theorem dX10_patch_24 : decode cX10_patch 24 = .ok (.aload_n 0, 1) := by decide +kernel
theorem dX10_patch_25 : decode cX10_patch 25 = .ok (.getfield 233, 3) := by decide +kernel
theorem dX10_patch_28 : decode cX10_patch 28 = .ok (.if_icmp .ge 147, 3) := by decide +kernel
theorem dX10_patch_31 : decode cX10_patch 31 = .ok (.bipush 40, 2) := by decide +kernel
theorem dX10_patch_33 : decode cX10_patch 33 = .ok (.iload_n 1, 1) := by decide +kernel
theorem dX10_patch_34 : decode cX10_patch 34 = .ok (.imul, 1) := by decide +kernel
theorem dX10_patch_35 : decode cX10_patch 35 = .ok (.iload_n 3, 1) := by decide +kernel
theorem dX10_patch_36 : decode cX10_patch 36 = .ok (.iadd, 1) := by decide +kernel
theorem dX10_patch_37 : decode cX10_patch 37 = .ok (.istore 4, 2) := by decide +kernel
theorem dX10_patch_39 : decode cX10_patch 39 = .ok (.aload_n 0, 1) := by decide +kernel
theorem dX10_patch_40 : decode cX10_patch 40 = .ok (.getfield 61, 3) := by decide +kernel
theorem dX10_patch_43 : decode cX10_patch 43 = .ok (.iload 4, 2) := by decide +kernel
theorem dX10_patch_45 : decode cX10_patch 45 = .ok (.aload_n 0, 1) := by decide +kernel
theorem dX10_patch_46 : decode cX10_patch 46 = .ok (.getfield 36, 3) := by decide +kernel
theorem dX10_patch_49 : decode cX10_patch 49 = .ok (.iload_n 3, 1) := by decide +kernel
theorem dX10_patch_50 : decode cX10_patch 50 = .ok (.iaload, 1) := by decide +kernel
theorem dX10_patch_51 : decode cX10_patch 51 = .ok (.ifCond .ne 19, 3) := by decide +kernel
theorem dX10_patch_54 : decode cX10_patch 54 = .ok (.aload_n 0, 1) := by decide +kernel
theorem dX10_patch_55 : decode cX10_patch 55 = .ok (.iload_n 3, 1) := by decide +kernel
theorem dX10_patch_56 : decode cX10_patch 56 = .ok (.invokevirtual 262, 3) := by decide +kernel
theorem dX10_patch_59 : decode cX10_patch 59 = .ok (.ifCond .ne 7, 3) := by decide +kernel
theorem dX10_patch_62 : decode cX10_patch 62 = .ok (.iconst 0, 1) := by decide +kernel
theorem dX10_patch_63 : decode cX10_patch 63 = .ok (.goto 22, 3) := by decide +kernel
theorem dX10_patch_66 : decode cX10_patch 66 = .ok (.iconst 1, 1) := by decide +kernel
theorem dX10_patch_67 : decode cX10_patch 67 = .ok (.goto 18, 3) := by decide +kernel
theorem dX10_patch_70 : decode cX10_patch 70 = .ok (.aload_n 0, 1) := by decide +kernel
theorem dX10_patch_71 : decode cX10_patch 71 = .ok (.getfield 36, 3) := by decide +kernel
theorem dX10_patch_74 : decode cX10_patch 74 = .ok (.iload_n 3, 1) := by decide +kernel
theorem dX10_patch_75 : decode cX10_patch 75 = .ok (.iaload, 1) := by decide +kernel
theorem dX10_patch_76 : decode cX10_patch 76 = .ok (.iconst 1, 1) := by decide +kernel
theorem dX10_patch_77 : decode cX10_patch 77 = .ok (.if_icmp .ne 7, 3) := by decide +kernel
theorem dX10_patch_80 : decode cX10_patch 80 = .ok (.iconst 2, 1) := by decide +kernel
theorem dX10_patch_81 : decode cX10_patch 81 = .ok (.goto 4, 3) := by decide +kernel
theorem dX10_patch_84 : decode cX10_patch 84 = .ok (.iconst 3, 1) := by decide +kernel
theorem dX10_patch_85 : decode cX10_patch 85 = .ok (.iastore, 1) := by decide +kernel
theorem dX10_patch_86 : decode cX10_patch 86 = .ok (.aload_n 0, 1) := by decide +kernel
theorem dX10_patch_87 : decode cX10_patch 87 = .ok (.getfield 61, 3) := by decide +kernel
theorem dX10_patch_90 : decode cX10_patch 90 = .ok (.iload 4, 2) := by decide +kernel
theorem dX10_patch_92 : decode cX10_patch 92 = .ok (.iaload, 1) := by decide +kernel
theorem dX10_patch_93 : decode cX10_patch 93 = .ok (.iconst 3, 1) := by decide +kernel
theorem dX10_patch_94 : decode cX10_patch 94 = .ok (.if_icmp .eq 23, 3) := by decide +kernel
theorem dX10_patch_97 : decode cX10_patch 97 = .ok (.aload_n 0, 1) := by decide +kernel
theorem dX10_patch_98 : decode cX10_patch 98 = .ok (.sipush 480, 3) := by decide +kernel
theorem dX10_patch_101 : decode cX10_patch 101 = .ok (.aload_n 0, 1) := by decide +kernel
theorem dX10_patch_102 : decode cX10_patch 102 = .ok (.getfield 39, 3) := by decide +kernel
theorem dX10_patch_105 : decode cX10_patch 105 = .ok (.iload_n 3, 1) := by decide +kernel
theorem dX10_patch_106 : decode cX10_patch 106 = .ok (.iaload, 1) := by decide +kernel
theorem dX10_patch_107 : decode cX10_patch 107 = .ok (.iadd, 1) := by decide +kernel
theorem dX10_patch_108 : decode cX10_patch 108 = .ok (.sipush 560, 3) := by decide +kernel
theorem dX10_patch_111 : decode cX10_patch 111 = .ok (.iload 4, 2) := by decide +kernel
theorem dX10_patch_113 : decode cX10_patch 113 = .ok (.iadd, 1) := by decide +kernel
theorem dX10_patch_114 : decode cX10_patch 114 = .ok (.invokevirtual 229, 3) := by decide +kernel
theorem dX10_patch_117 : decode cX10_patch 117 = .ok (.aload_n 0, 1) := by decide +kernel
theorem dX10_patch_118 : decode cX10_patch 118 = .ok (.getfield 61, 3) := by decide +kernel
theorem dX10_patch_121 : decode cX10_patch 121 = .ok (.iload 4, 2) := by decide +kernel
theorem dX10_patch_123 : decode cX10_patch 123 = .ok (.iaload, 1) := by decide +kernel
theorem dX10_patch_124 : decode cX10_patch 124 = .ok (.iconst 2, 1) := by decide +kernel
theorem dX10_patch_125 : decode cX10_patch 125 = .ok (.if_icmp .eq 23, 3) := by decide +kernel
theorem dX10_patch_128 : decode cX10_patch 128 = .ok (.aload_n 0, 1) := by decide +kernel
theorem dX10_patch_129 : decode cX10_patch 129 = .ok (.sipush 500, 3) := by decide +kernel
theorem dX10_patch_132 : decode cX10_patch 132 = .ok (.aload_n 0, 1) := by decide +kernel
theorem dX10_patch_133 : decode cX10_patch 133 = .ok (.getfield 42, 3) := by decide +kernel
theorem dX10_patch_136 : decode cX10_patch 136 = .ok (.iload_n 3, 1) := by decide +kernel
theorem dX10_patch_137 : decode cX10_patch 137 = .ok (.iaload, 1) := by decide +kernel
theorem dX10_patch_138 : decode cX10_patch 138 = .ok (.iadd, 1) := by decide +kernel
theorem dX10_patch_139 : decode cX10_patch 139 = .ok (.sipush 720, 3) := by decide +kernel
theorem dX10_patch_142 : decode cX10_patch 142 = .ok (.iload 4, 2) := by decide +kernel
theorem dX10_patch_144 : decode cX10_patch 144 = .ok (.iadd, 1) := by decide +kernel
theorem dX10_patch_145 : decode cX10_patch 145 = .ok (.invokevirtual 229, 3) := by decide +kernel
theorem dX10_patch_148 : decode cX10_patch 148 = .ok (.iload_n 2, 1) := by decide +kernel
theorem dX10_patch_149 : decode cX10_patch 149 = .ok (.aload_n 0, 1) := by decide +kernel
theorem dX10_patch_150 : decode cX10_patch 150 = .ok (.getfield 61, 3) := by decide +kernel
theorem dX10_patch_153 : decode cX10_patch 153 = .ok (.iload 4, 2) := by decide +kernel
theorem dX10_patch_155 : decode cX10_patch 155 = .ok (.iaload, 1) := by decide +kernel
theorem dX10_patch_156 : decode cX10_patch 156 = .ok (.ifCond .eq 7, 3) := by decide +kernel
theorem dX10_patch_159 : decode cX10_patch 159 = .ok (.iconst 1, 1) := by decide +kernel
theorem dX10_patch_160 : decode cX10_patch 160 = .ok (.goto 4, 3) := by decide +kernel
theorem dX10_patch_163 : decode cX10_patch 163 = .ok (.iconst 0, 1) := by decide +kernel
theorem dX10_patch_164 : decode cX10_patch 164 = .ok (.invokestatic 200, 3) := by decide +kernel
theorem dX10_patch_167 : decode cX10_patch 167 = .ok (.iadd, 1) := by decide +kernel
theorem dX10_patch_168 : decode cX10_patch 168 = .ok (.istore_n 2, 1) := by decide +kernel
theorem dX10_patch_169 : decode cX10_patch 169 = .ok (.iinc 3 1, 3) := by decide +kernel
theorem dX10_patch_172 : decode cX10_patch 172 = .ok (.goto (-149), 3) := by decide +kernel
theorem dX10_patch_175 : decode cX10_patch 175 = .ok (.aload_n 0, 1) := by decide +kernel
theorem dX10_patch_176 : decode cX10_patch 176 = .ok (.getfield 55, 3) := by decide +kernel
theorem dX10_patch_179 : decode cX10_patch 179 = .ok (.iload_n 1, 1) := by decide +kernel
theorem dX10_patch_180 : decode cX10_patch 180 = .ok (.iconst 1, 1) := by decide +kernel
theorem dX10_patch_181 : decode cX10_patch 181 = .ok (.bastore, 1) := by decide +kernel
theorem dX10_patch_182 : decode cX10_patch 182 = .ok (.aload_n 0, 1) := by decide +kernel
theorem dX10_patch_183 : decode cX10_patch 183 = .ok (.getfield 58, 3) := by decide +kernel
theorem dX10_patch_186 : decode cX10_patch 186 = .ok (.iload_n 1, 1) := by decide +kernel
theorem dX10_patch_187 : decode cX10_patch 187 = .ok (.aload_n 0, 1) := by decide +kernel
theorem dX10_patch_188 : decode cX10_patch 188 = .ok (.getfield 233, 3) := by decide +kernel
theorem dX10_patch_191 : decode cX10_patch 191 = .ok (.iastore, 1) := by decide +kernel
theorem dX10_patch_192 : decode cX10_patch 192 = .ok (.iload_n 2, 1) := by decide +kernel
theorem dX10_patch_193 : decode cX10_patch 193 = .ok (.ireturn, 1) := by decide +kernel
theorem dX10_turn_0 : decode cX10_turn 0 = .ok (.iload_n 1, 1) := by decide +kernel
theorem dX10_turn_1 : decode cX10_turn 1 = .ok (.invokestatic 300, 3) := by decide +kernel
theorem dX10_turn_4 : decode cX10_turn 4 = .ok (.ifCond .ne 5, 3) := by decide +kernel
theorem dX10_turn_7 : decode cX10_turn 7 = .ok (.iconst (-1), 1) := by decide +kernel
theorem dX10_turn_8 : decode cX10_turn 8 = .ok (.ireturn, 1) := by decide +kernel
theorem dX10_turn_9 : decode cX10_turn 9 = .ok (.aload_n 0, 1) := by decide +kernel
theorem dX10_turn_10 : decode cX10_turn 10 = .ok (.getfield 55, 3) := by decide +kernel
theorem dX10_turn_13 : decode cX10_turn 13 = .ok (.iload_n 1, 1) := by decide +kernel
theorem dX10_turn_14 : decode cX10_turn 14 = .ok (.baload, 1) := by decide +kernel
theorem dX10_turn_15 : decode cX10_turn 15 = .ok (.ifCond .ne 6, 3) := by decide +kernel
theorem dX10_turn_18 : decode cX10_turn 18 = .ok (.bipush (-2), 2) := by decide +kernel
theorem dX10_turn_20 : decode cX10_turn 20 = .ok (.ireturn, 1) := by decide +kernel
theorem dX10_turn_21 : decode cX10_turn 21 = .ok (.iconst 0, 1) := by decide +kernel
theorem dX10_turn_22 : decode cX10_turn 22 = .ok (.istore_n 2, 1) := by decide +kernel
theorem dX10_turn_23 : decode cX10_turn 23 = .ok (.iload_n 2, 1) := by decide +kernel
theorem dX10_turn_24 : decode cX10_turn 24 = .ok (.aload_n 0, 1) := by decide +kernel
theorem dX10_turn_25 : decode cX10_turn 25 = .ok (.getfield 58, 3) := by decide +kernel
theorem dX10_turn_28 : decode cX10_turn 28 = .ok (.iload_n 1, 1) := by decide +kernel
theorem dX10_turn_29 : decode cX10_turn 29 = .ok (.iaload, 1) := by decide +kernel
theorem dX10_turn_30 : decode cX10_turn 30 = .ok (.if_icmp .ge 94, 3) := by decide +kernel
theorem dX10_turn_33 : decode cX10_turn 33 = .ok (.bipush 40, 2) := by decide +kernel
theorem dX10_turn_35 : decode cX10_turn 35 = .ok (.iload_n 1, 1) := by decide +kernel
theorem dX10_turn_36 : decode cX10_turn 36 = .ok (.imul, 1) := by decide +kernel
theorem dX10_turn_37 : decode cX10_turn 37 = .ok (.iload_n 2, 1) := by decide +kernel
theorem dX10_turn_38 : decode cX10_turn 38 = .ok (.iadd, 1) := by decide +kernel
theorem dX10_turn_39 : decode cX10_turn 39 = .ok (.istore_n 3, 1) := by decide +kernel
theorem dX10_turn_40 : decode cX10_turn 40 = .ok (.aload_n 0, 1) := by decide +kernel
theorem dX10_turn_41 : decode cX10_turn 41 = .ok (.getfield 61, 3) := by decide +kernel
theorem dX10_turn_44 : decode cX10_turn 44 = .ok (.iload_n 3, 1) := by decide +kernel
theorem dX10_turn_45 : decode cX10_turn 45 = .ok (.aload_n 0, 1) := by decide +kernel
theorem dX10_turn_46 : decode cX10_turn 46 = .ok (.getfield 61, 3) := by decide +kernel
theorem dX10_turn_49 : decode cX10_turn 49 = .ok (.iload_n 3, 1) := by decide +kernel
theorem dX10_turn_50 : decode cX10_turn 50 = .ok (.iaload, 1) := by decide +kernel
theorem dX10_turn_51 : decode cX10_turn 51 = .ok (.iconst 2, 1) := by decide +kernel
theorem dX10_turn_52 : decode cX10_turn 52 = .ok (.if_icmp .ne 7, 3) := by decide +kernel
theorem dX10_turn_55 : decode cX10_turn 55 = .ok (.iconst 3, 1) := by decide +kernel
theorem dX10_turn_56 : decode cX10_turn 56 = .ok (.goto 23, 3) := by decide +kernel
theorem dX10_turn_59 : decode cX10_turn 59 = .ok (.aload_n 0, 1) := by decide +kernel
theorem dX10_turn_60 : decode cX10_turn 60 = .ok (.getfield 61, 3) := by decide +kernel
theorem dX10_turn_63 : decode cX10_turn 63 = .ok (.iload_n 3, 1) := by decide +kernel
theorem dX10_turn_64 : decode cX10_turn 64 = .ok (.iaload, 1) := by decide +kernel
theorem dX10_turn_65 : decode cX10_turn 65 = .ok (.iconst 3, 1) := by decide +kernel
theorem dX10_turn_66 : decode cX10_turn 66 = .ok (.if_icmp .ne 7, 3) := by decide +kernel
theorem dX10_turn_69 : decode cX10_turn 69 = .ok (.iconst 2, 1) := by decide +kernel
theorem dX10_turn_70 : decode cX10_turn 70 = .ok (.goto 9, 3) := by decide +kernel
theorem dX10_turn_73 : decode cX10_turn 73 = .ok (.aload_n 0, 1) := by decide +kernel
theorem dX10_turn_74 : decode cX10_turn 74 = .ok (.getfield 61, 3) := by decide +kernel
theorem dX10_turn_77 : decode cX10_turn 77 = .ok (.iload_n 3, 1) := by decide +kernel
theorem dX10_turn_78 : decode cX10_turn 78 = .ok (.iaload, 1) := by decide +kernel
theorem dX10_turn_79 : decode cX10_turn 79 = .ok (.iastore, 1) := by decide +kernel
theorem dX10_turn_80 : decode cX10_turn 80 = .ok (.aload_n 0, 1) := by decide +kernel
theorem dX10_turn_81 : decode cX10_turn 81 = .ok (.sipush 560, 3) := by decide +kernel
theorem dX10_turn_84 : decode cX10_turn 84 = .ok (.iload_n 3, 1) := by decide +kernel
theorem dX10_turn_85 : decode cX10_turn 85 = .ok (.iadd, 1) := by decide +kernel
theorem dX10_turn_86 : decode cX10_turn 86 = .ok (.sipush 520, 3) := by decide +kernel
theorem dX10_turn_89 : decode cX10_turn 89 = .ok (.invokevirtual 229, 3) := by decide +kernel
theorem dX10_turn_92 : decode cX10_turn 92 = .ok (.aload_n 0, 1) := by decide +kernel
theorem dX10_turn_93 : decode cX10_turn 93 = .ok (.sipush 720, 3) := by decide +kernel
theorem dX10_turn_96 : decode cX10_turn 96 = .ok (.iload_n 3, 1) := by decide +kernel
theorem dX10_turn_97 : decode cX10_turn 97 = .ok (.iadd, 1) := by decide +kernel
theorem dX10_turn_98 : decode cX10_turn 98 = .ok (.sipush 560, 3) := by decide +kernel
theorem dX10_turn_101 : decode cX10_turn 101 = .ok (.iload_n 3, 1) := by decide +kernel
theorem dX10_turn_102 : decode cX10_turn 102 = .ok (.iadd, 1) := by decide +kernel
theorem dX10_turn_103 : decode cX10_turn 103 = .ok (.invokevirtual 229, 3) := by decide +kernel
theorem dX10_turn_106 : decode cX10_turn 106 = .ok (.aload_n 0, 1) := by decide +kernel
theorem dX10_turn_107 : decode cX10_turn 107 = .ok (.sipush 520, 3) := by decide +kernel
theorem dX10_turn_110 : decode cX10_turn 110 = .ok (.sipush 720, 3) := by decide +kernel
theorem dX10_turn_113 : decode cX10_turn 113 = .ok (.iload_n 3, 1) := by decide +kernel
theorem dX10_turn_114 : decode cX10_turn 114 = .ok (.iadd, 1) := by decide +kernel
theorem dX10_turn_115 : decode cX10_turn 115 = .ok (.invokevirtual 229, 3) := by decide +kernel
theorem dX10_turn_118 : decode cX10_turn 118 = .ok (.iinc 2 1, 3) := by decide +kernel
theorem dX10_turn_121 : decode cX10_turn 121 = .ok (.goto (-98), 3) := by decide +kernel
theorem dX10_turn_124 : decode cX10_turn 124 = .ok (.aload_n 0, 1) := by decide +kernel
theorem dX10_turn_125 : decode cX10_turn 125 = .ok (.getfield 58, 3) := by decide +kernel
theorem dX10_turn_128 : decode cX10_turn 128 = .ok (.iload_n 1, 1) := by decide +kernel
theorem dX10_turn_129 : decode cX10_turn 129 = .ok (.iaload, 1) := by decide +kernel
theorem dX10_turn_130 : decode cX10_turn 130 = .ok (.ireturn, 1) := by decide +kernel
theorem dX10_act_0 : decode cX10_act 0 = .ok (.iload_n 1, 1) := by decide +kernel
theorem dX10_act_1 : decode cX10_act 1 = .ok (.invokestatic 300, 3) := by decide +kernel
theorem dX10_act_4 : decode cX10_act 4 = .ok (.ifCond .eq 19, 3) := by decide +kernel
theorem dX10_act_7 : decode cX10_act 7 = .ok (.iload_n 2, 1) := by decide +kernel
theorem dX10_act_8 : decode cX10_act 8 = .ok (.ifCond .lt 15, 3) := by decide +kernel
theorem dX10_act_11 : decode cX10_act 11 = .ok (.iload_n 3, 1) := by decide +kernel
theorem dX10_act_12 : decode cX10_act 12 = .ok (.i2l, 1) := by decide +kernel
theorem dX10_act_13 : decode cX10_act 13 = .ok (.lconst 0, 1) := by decide +kernel
theorem dX10_act_14 : decode cX10_act 14 = .ok (.ldc2_w 288, 3) := by decide +kernel
theorem dX10_act_17 : decode cX10_act 17 = .ok (.invokestatic 72, 3) := by decide +kernel
theorem dX10_act_20 : decode cX10_act 20 = .ok (.ifCond .ne 5, 3) := by decide +kernel
theorem dX10_act_23 : decode cX10_act 23 = .ok (.iconst (-1), 1) := by decide +kernel
theorem dX10_act_24 : decode cX10_act 24 = .ok (.ireturn, 1) := by decide +kernel
theorem dX10_act_25 : decode cX10_act 25 = .ok (.aload_n 0, 1) := by decide +kernel
theorem dX10_act_26 : decode cX10_act 26 = .ok (.getfield 55, 3) := by decide +kernel
theorem dX10_act_29 : decode cX10_act 29 = .ok (.iload_n 1, 1) := by decide +kernel
theorem dX10_act_30 : decode cX10_act 30 = .ok (.baload, 1) := by decide +kernel
theorem dX10_act_31 : decode cX10_act 31 = .ok (.ifCond .ne 6, 3) := by decide +kernel
theorem dX10_act_34 : decode cX10_act 34 = .ok (.bipush (-2), 2) := by decide +kernel
theorem dX10_act_36 : decode cX10_act 36 = .ok (.ireturn, 1) := by decide +kernel
theorem dX10_act_37 : decode cX10_act 37 = .ok (.iload_n 2, 1) := by decide +kernel
theorem dX10_act_38 : decode cX10_act 38 = .ok (.aload_n 0, 1) := by decide +kernel
theorem dX10_act_39 : decode cX10_act 39 = .ok (.getfield 58, 3) := by decide +kernel
theorem dX10_act_42 : decode cX10_act 42 = .ok (.iload_n 1, 1) := by decide +kernel
theorem dX10_act_43 : decode cX10_act 43 = .ok (.iaload, 1) := by decide +kernel
theorem dX10_act_44 : decode cX10_act 44 = .ok (.if_icmp .lt 6, 3) := by decide +kernel
theorem dX10_act_47 : decode cX10_act 47 = .ok (.bipush (-4), 2) := by decide +kernel
theorem dX10_act_49 : decode cX10_act 49 = .ok (.ireturn, 1) := by decide +kernel
theorem dX10_act_50 : decode cX10_act 50 = .ok (.bipush 40, 2) := by decide +kernel
theorem dX10_act_52 : decode cX10_act 52 = .ok (.iload_n 1, 1) := by decide +kernel
theorem dX10_act_53 : decode cX10_act 53 = .ok (.imul, 1) := by decide +kernel
theorem dX10_act_54 : decode cX10_act 54 = .ok (.iload_n 2, 1) := by decide +kernel
theorem dX10_act_55 : decode cX10_act 55 = .ok (.iadd, 1) := by decide +kernel
theorem dX10_act_56 : decode cX10_act 56 = .ok (.istore 4, 2) := by decide +kernel
theorem dX10_act_58 : decode cX10_act 58 = .ok (.iload_n 3, 1) := by decide +kernel
theorem dX10_act_59 : decode cX10_act 59 = .ok (.ifCond .ne 11, 3) := by decide +kernel
theorem dX10_act_62 : decode cX10_act 62 = .ok (.aload_n 0, 1) := by decide +kernel
theorem dX10_act_63 : decode cX10_act 63 = .ok (.getfield 61, 3) := by decide +kernel
theorem dX10_act_66 : decode cX10_act 66 = .ok (.iload 4, 2) := by decide +kernel
theorem dX10_act_68 : decode cX10_act 68 = .ok (.iaload, 1) := by decide +kernel
theorem dX10_act_69 : decode cX10_act 69 = .ok (.ireturn, 1) := by decide +kernel
theorem dX10_act_70 : decode cX10_act 70 = .ok (.aload_n 0, 1) := by decide +kernel
theorem dX10_act_71 : decode cX10_act 71 = .ok (.getfield 61, 3) := by decide +kernel
theorem dX10_act_74 : decode cX10_act 74 = .ok (.iload 4, 2) := by decide +kernel
theorem dX10_act_76 : decode cX10_act 76 = .ok (.iaload, 1) := by decide +kernel
theorem dX10_act_77 : decode cX10_act 77 = .ok (.iload_n 3, 1) := by decide +kernel
theorem dX10_act_78 : decode cX10_act 78 = .ok (.iconst 1, 1) := by decide +kernel
theorem dX10_act_79 : decode cX10_act 79 = .ok (.if_icmp .ne 7, 3) := by decide +kernel
theorem dX10_act_82 : decode cX10_act 82 = .ok (.iconst 3, 1) := by decide +kernel
theorem dX10_act_83 : decode cX10_act 83 = .ok (.goto 4, 3) := by decide +kernel
theorem dX10_act_86 : decode cX10_act 86 = .ok (.iconst 2, 1) := by decide +kernel
theorem dX10_act_87 : decode cX10_act 87 = .ok (.if_icmp .ne 8, 3) := by decide +kernel
theorem dX10_act_90 : decode cX10_act 90 = .ok (.bipush (-4), 2) := by decide +kernel
theorem dX10_act_92 : decode cX10_act 92 = .ok (.goto 25, 3) := by decide +kernel
theorem dX10_act_95 : decode cX10_act 95 = .ok (.aload_n 0, 1) := by decide +kernel
theorem dX10_act_96 : decode cX10_act 96 = .ok (.getfield 7, 3) := by decide +kernel
theorem dX10_act_99 : decode cX10_act 99 = .ok (.iload_n 3, 1) := by decide +kernel
theorem dX10_act_100 : decode cX10_act 100 = .ok (.iconst 1, 1) := by decide +kernel
theorem dX10_act_101 : decode cX10_act 101 = .ok (.if_icmp .ne 9, 3) := by decide +kernel
theorem dX10_act_104 : decode cX10_act 104 = .ok (.sipush 560, 3) := by decide +kernel
theorem dX10_act_107 : decode cX10_act 107 = .ok (.goto 6, 3) := by decide +kernel
theorem dX10_act_110 : decode cX10_act 110 = .ok (.sipush 720, 3) := by decide +kernel
theorem dX10_act_113 : decode cX10_act 113 = .ok (.iload 4, 2) := by decide +kernel
theorem dX10_act_115 : decode cX10_act 115 = .ok (.iadd, 1) := by decide +kernel
theorem dX10_act_116 : decode cX10_act 116 = .ok (.iaload, 1) := by decide +kernel
theorem dX10_act_117 : decode cX10_act 117 = .ok (.ireturn, 1) := by decide +kernel
theorem dX10_actFault_0 : decode cX10_actFault 0 = .ok (.aload_n 0, 1) := by decide +kernel
theorem dX10_actFault_1 : decode cX10_actFault 1 = .ok (.getfield 61, 3) := by decide +kernel
theorem dX10_actFault_4 : decode cX10_actFault 4 = .ok (.iload_n 1, 1) := by decide +kernel
theorem dX10_actFault_5 : decode cX10_actFault 5 = .ok (.iaload, 1) := by decide +kernel
theorem dX10_actFault_6 : decode cX10_actFault 6 = .ok (.iconst 3, 1) := by decide +kernel
theorem dX10_actFault_7 : decode cX10_actFault 7 = .ok (.if_icmp .eq 7, 3) := by decide +kernel
theorem dX10_actFault_10 : decode cX10_actFault 10 = .ok (.iconst 1, 1) := by decide +kernel
theorem dX10_actFault_11 : decode cX10_actFault 11 = .ok (.goto 4, 3) := by decide +kernel
theorem dX10_actFault_14 : decode cX10_actFault 14 = .ok (.iconst 0, 1) := by decide +kernel
theorem dX10_actFault_15 : decode cX10_actFault 15 = .ok (.istore_n 3, 1) := by decide +kernel
theorem dX10_actFault_16 : decode cX10_actFault 16 = .ok (.iload_n 3, 1) := by decide +kernel
theorem dX10_actFault_17 : decode cX10_actFault 17 = .ok (.ifCond .eq 17, 3) := by decide +kernel
theorem dX10_actFault_20 : decode cX10_actFault 20 = .ok (.aload_n 0, 1) := by decide +kernel
theorem dX10_actFault_21 : decode cX10_actFault 21 = .ok (.getfield 303, 3) := by decide +kernel
theorem dX10_actFault_24 : decode cX10_actFault 24 = .ok (.aload_n 0, 1) := by decide +kernel
theorem dX10_actFault_25 : decode cX10_actFault 25 = .ok (.iload_n 2, 1) := by decide +kernel
theorem dX10_actFault_26 : decode cX10_actFault 26 = .ok (.invokevirtual 152, 3) := by decide +kernel
theorem dX10_actFault_29 : decode cX10_actFault 29 = .ok (.if_icmp .lt 5, 3) := by decide +kernel
theorem dX10_actFault_32 : decode cX10_actFault 32 = .ok (.iconst 3, 1) := by decide +kernel
theorem dX10_actFault_33 : decode cX10_actFault 33 = .ok (.ireturn, 1) := by decide +kernel
theorem dX10_actFault_34 : decode cX10_actFault 34 = .ok (.iload_n 3, 1) := by decide +kernel
theorem dX10_actFault_35 : decode cX10_actFault 35 = .ok (.ifCond .eq 15, 3) := by decide +kernel
theorem dX10_actFault_38 : decode cX10_actFault 38 = .ok (.aload_n 0, 1) := by decide +kernel
theorem dX10_actFault_39 : decode cX10_actFault 39 = .ok (.iload_n 2, 1) := by decide +kernel
theorem dX10_actFault_40 : decode cX10_actFault 40 = .ok (.aload_n 0, 1) := by decide +kernel
theorem dX10_actFault_41 : decode cX10_actFault 41 = .ok (.getfield 303, 3) := by decide +kernel
theorem dX10_actFault_44 : decode cX10_actFault 44 = .ok (.invokevirtual 135, 3) := by decide +kernel
theorem dX10_actFault_47 : decode cX10_actFault 47 = .ok (.goto 5, 3) := by decide +kernel
theorem dX10_actFault_50 : decode cX10_actFault 50 = .ok (.bipush (-4), 2) := by decide +kernel
theorem dX10_actFault_52 : decode cX10_actFault 52 = .ok (.istore 4, 2) := by decide +kernel
theorem dX10_actFault_54 : decode cX10_actFault 54 = .ok (.aload_n 0, 1) := by decide +kernel
theorem dX10_actFault_55 : decode cX10_actFault 55 = .ok (.getfield 61, 3) := by decide +kernel
theorem dX10_actFault_58 : decode cX10_actFault 58 = .ok (.iload_n 1, 1) := by decide +kernel
theorem dX10_actFault_59 : decode cX10_actFault 59 = .ok (.iaload, 1) := by decide +kernel
theorem dX10_actFault_60 : decode cX10_actFault 60 = .ok (.iconst 1, 1) := by decide +kernel
theorem dX10_actFault_61 : decode cX10_actFault 61 = .ok (.if_icmp .eq 13, 3) := by decide +kernel
theorem dX10_actFault_64 : decode cX10_actFault 64 = .ok (.aload_n 0, 1) := by decide +kernel
theorem dX10_actFault_65 : decode cX10_actFault 65 = .ok (.getfield 61, 3) := by decide +kernel
theorem dX10_actFault_68 : decode cX10_actFault 68 = .ok (.iload_n 1, 1) := by decide +kernel
theorem dX10_actFault_69 : decode cX10_actFault 69 = .ok (.iaload, 1) := by decide +kernel
theorem dX10_actFault_70 : decode cX10_actFault 70 = .ok (.iconst 3, 1) := by decide +kernel
theorem dX10_actFault_71 : decode cX10_actFault 71 = .ok (.if_icmp .ne 7, 3) := by decide +kernel
theorem dX10_actFault_74 : decode cX10_actFault 74 = .ok (.iconst 1, 1) := by decide +kernel
theorem dX10_actFault_75 : decode cX10_actFault 75 = .ok (.goto 4, 3) := by decide +kernel
theorem dX10_actFault_78 : decode cX10_actFault 78 = .ok (.iconst 0, 1) := by decide +kernel
theorem dX10_actFault_79 : decode cX10_actFault 79 = .ok (.istore 5, 2) := by decide +kernel
theorem dX10_actFault_81 : decode cX10_actFault 81 = .ok (.aload_n 0, 1) := by decide +kernel
theorem dX10_actFault_82 : decode cX10_actFault 82 = .ok (.getfield 61, 3) := by decide +kernel
theorem dX10_actFault_85 : decode cX10_actFault 85 = .ok (.iload_n 1, 1) := by decide +kernel
theorem dX10_actFault_86 : decode cX10_actFault 86 = .ok (.iaload, 1) := by decide +kernel
theorem dX10_actFault_87 : decode cX10_actFault 87 = .ok (.iconst 1, 1) := by decide +kernel
theorem dX10_actFault_88 : decode cX10_actFault 88 = .ok (.if_icmp .eq 13, 3) := by decide +kernel
theorem dX10_actFault_91 : decode cX10_actFault 91 = .ok (.aload_n 0, 1) := by decide +kernel
theorem dX10_actFault_92 : decode cX10_actFault 92 = .ok (.getfield 61, 3) := by decide +kernel
theorem dX10_actFault_95 : decode cX10_actFault 95 = .ok (.iload_n 1, 1) := by decide +kernel
theorem dX10_actFault_96 : decode cX10_actFault 96 = .ok (.iaload, 1) := by decide +kernel
theorem dX10_actFault_97 : decode cX10_actFault 97 = .ok (.iconst 2, 1) := by decide +kernel
theorem dX10_actFault_98 : decode cX10_actFault 98 = .ok (.if_icmp .ne 20, 3) := by decide +kernel
theorem dX10_actFault_101 : decode cX10_actFault 101 = .ok (.aload_n 0, 1) := by decide +kernel
theorem dX10_actFault_102 : decode cX10_actFault 102 = .ok (.iload 4, 2) := by decide +kernel
theorem dX10_actFault_104 : decode cX10_actFault 104 = .ok (.sipush 560, 3) := by decide +kernel
theorem dX10_actFault_107 : decode cX10_actFault 107 = .ok (.iload_n 1, 1) := by decide +kernel
theorem dX10_actFault_108 : decode cX10_actFault 108 = .ok (.iadd, 1) := by decide +kernel
theorem dX10_actFault_109 : decode cX10_actFault 109 = .ok (.invokevirtual 112, 3) := by decide +kernel
theorem dX10_actFault_112 : decode cX10_actFault 112 = .ok (.ifCond .ne 6, 3) := by decide +kernel
theorem dX10_actFault_115 : decode cX10_actFault 115 = .ok (.bipush 7, 2) := by decide +kernel
theorem dX10_actFault_117 : decode cX10_actFault 117 = .ok (.ireturn, 1) := by decide +kernel
theorem dX10_actFault_118 : decode cX10_actFault 118 = .ok (.iload 5, 2) := by decide +kernel
theorem dX10_actFault_120 : decode cX10_actFault 120 = .ok (.ifCond .eq 26, 3) := by decide +kernel
theorem dX10_actFault_123 : decode cX10_actFault 123 = .ok (.aload_n 0, 1) := by decide +kernel
theorem dX10_actFault_124 : decode cX10_actFault 124 = .ok (.getfield 7, 3) := by decide +kernel
theorem dX10_actFault_127 : decode cX10_actFault 127 = .ok (.sipush 720, 3) := by decide +kernel
theorem dX10_actFault_130 : decode cX10_actFault 130 = .ok (.iload_n 1, 1) := by decide +kernel
theorem dX10_actFault_131 : decode cX10_actFault 131 = .ok (.iadd, 1) := by decide +kernel
theorem dX10_actFault_132 : decode cX10_actFault 132 = .ok (.iaload, 1) := by decide +kernel
theorem dX10_actFault_133 : decode cX10_actFault 133 = .ok (.aload_n 0, 1) := by decide +kernel
theorem dX10_actFault_134 : decode cX10_actFault 134 = .ok (.iload_n 2, 1) := by decide +kernel
theorem dX10_actFault_135 : decode cX10_actFault 135 = .ok (.invokevirtual 146, 3) := by decide +kernel
theorem dX10_actFault_138 : decode cX10_actFault 138 = .ok (.invokestatic 80, 3) := by decide +kernel
theorem dX10_actFault_141 : decode cX10_actFault 141 = .ok (.ifCond .ne 5, 3) := by decide +kernel
theorem dX10_actFault_144 : decode cX10_actFault 144 = .ok (.iconst 5, 1) := by decide +kernel
theorem dX10_actFault_145 : decode cX10_actFault 145 = .ok (.ireturn, 1) := by decide +kernel
theorem dX10_actFault_146 : decode cX10_actFault 146 = .ok (.aload_n 0, 1) := by decide +kernel
theorem dX10_actFault_147 : decode cX10_actFault 147 = .ok (.dup, 1) := by decide +kernel
theorem dX10_actFault_148 : decode cX10_actFault 148 = .ok (.getfield 303, 3) := by decide +kernel
theorem dX10_actFault_151 : decode cX10_actFault 151 = .ok (.iload_n 3, 1) := by decide +kernel
theorem dX10_actFault_152 : decode cX10_actFault 152 = .ok (.invokestatic 200, 3) := by decide +kernel
theorem dX10_actFault_155 : decode cX10_actFault 155 = .ok (.iadd, 1) := by decide +kernel
theorem dX10_actFault_156 : decode cX10_actFault 156 = .ok (.putfield 303, 3) := by decide +kernel
theorem dX10_actFault_159 : decode cX10_actFault 159 = .ok (.aload_n 0, 1) := by decide +kernel
theorem dX10_actFault_160 : decode cX10_actFault 160 = .ok (.getfield 61, 3) := by decide +kernel
theorem dX10_actFault_163 : decode cX10_actFault 163 = .ok (.iload_n 1, 1) := by decide +kernel
theorem dX10_actFault_164 : decode cX10_actFault 164 = .ok (.iaload, 1) := by decide +kernel
theorem dX10_actFault_165 : decode cX10_actFault 165 = .ok (.iconst 2, 1) := by decide +kernel
theorem dX10_actFault_166 : decode cX10_actFault 166 = .ok (.if_icmp .eq 40, 3) := by decide +kernel
theorem dX10_actFault_169 : decode cX10_actFault 169 = .ok (.aload_n 0, 1) := by decide +kernel
theorem dX10_actFault_170 : decode cX10_actFault 170 = .ok (.iload 5, 2) := by decide +kernel
theorem dX10_actFault_172 : decode cX10_actFault 172 = .ok (.ifCond .eq 11, 3) := by decide +kernel
theorem dX10_actFault_175 : decode cX10_actFault 175 = .ok (.sipush 720, 3) := by decide +kernel
theorem dX10_actFault_178 : decode cX10_actFault 178 = .ok (.iload_n 1, 1) := by decide +kernel
theorem dX10_actFault_179 : decode cX10_actFault 179 = .ok (.iadd, 1) := by decide +kernel
theorem dX10_actFault_180 : decode cX10_actFault 180 = .ok (.goto 5, 3) := by decide +kernel
theorem dX10_actFault_183 : decode cX10_actFault 183 = .ok (.iload 4, 2) := by decide +kernel
theorem dX10_actFault_185 : decode cX10_actFault 185 = .ok (.sipush 520, 3) := by decide +kernel
theorem dX10_actFault_188 : decode cX10_actFault 188 = .ok (.aload_n 0, 1) := by decide +kernel
theorem dX10_actFault_189 : decode cX10_actFault 189 = .ok (.getfield 306, 3) := by decide +kernel
theorem dX10_actFault_192 : decode cX10_actFault 192 = .ok (.iadd, 1) := by decide +kernel
theorem dX10_actFault_193 : decode cX10_actFault 193 = .ok (.invokevirtual 229, 3) := by decide +kernel
theorem dX10_actFault_196 : decode cX10_actFault 196 = .ok (.aload_n 0, 1) := by decide +kernel
theorem dX10_actFault_197 : decode cX10_actFault 197 = .ok (.dup, 1) := by decide +kernel
theorem dX10_actFault_198 : decode cX10_actFault 198 = .ok (.getfield 306, 3) := by decide +kernel
theorem dX10_actFault_201 : decode cX10_actFault 201 = .ok (.iconst 1, 1) := by decide +kernel
theorem dX10_actFault_202 : decode cX10_actFault 202 = .ok (.iadd, 1) := by decide +kernel
theorem dX10_actFault_203 : decode cX10_actFault 203 = .ok (.putfield 306, 3) := by decide +kernel
theorem dX10_actFault_206 : decode cX10_actFault 206 = .ok (.iconst 0, 1) := by decide +kernel
theorem dX10_actFault_207 : decode cX10_actFault 207 = .ok (.ireturn, 1) := by decide +kernel
theorem dX10_apply_0 : decode cX10_apply 0 = .ok (.iload_n 1, 1) := by decide +kernel
theorem dX10_apply_1 : decode cX10_apply 1 = .ok (.invokestatic 300, 3) := by decide +kernel
theorem dX10_apply_4 : decode cX10_apply 4 = .ok (.ifCond .eq 10, 3) := by decide +kernel
theorem dX10_apply_7 : decode cX10_apply 7 = .ok (.iload_n 2, 1) := by decide +kernel
theorem dX10_apply_8 : decode cX10_apply 8 = .ok (.invokestatic 141, 3) := by decide +kernel
theorem dX10_apply_11 : decode cX10_apply 11 = .ok (.ifCond .ne 5, 3) := by decide +kernel
theorem dX10_apply_14 : decode cX10_apply 14 = .ok (.iconst (-1), 1) := by decide +kernel
theorem dX10_apply_15 : decode cX10_apply 15 = .ok (.ireturn, 1) := by decide +kernel
theorem dX10_apply_16 : decode cX10_apply 16 = .ok (.aload_n 0, 1) := by decide +kernel
theorem dX10_apply_17 : decode cX10_apply 17 = .ok (.getfield 55, 3) := by decide +kernel
theorem dX10_apply_20 : decode cX10_apply 20 = .ok (.iload_n 1, 1) := by decide +kernel
theorem dX10_apply_21 : decode cX10_apply 21 = .ok (.baload, 1) := by decide +kernel
theorem dX10_apply_22 : decode cX10_apply 22 = .ok (.ifCond .ne 6, 3) := by decide +kernel
theorem dX10_apply_25 : decode cX10_apply 25 = .ok (.bipush (-2), 2) := by decide +kernel
theorem dX10_apply_27 : decode cX10_apply 27 = .ok (.ireturn, 1) := by decide +kernel
theorem dX10_apply_28 : decode cX10_apply 28 = .ok (.aload_n 0, 1) := by decide +kernel
theorem dX10_apply_29 : decode cX10_apply 29 = .ok (.iload_n 2, 1) := by decide +kernel
theorem dX10_apply_30 : decode cX10_apply 30 = .ok (.invokevirtual 124, 3) := by decide +kernel
theorem dX10_apply_33 : decode cX10_apply 33 = .ok (.ifCond .le 12, 3) := by decide +kernel
theorem dX10_apply_36 : decode cX10_apply 36 = .ok (.bipush (-10), 2) := by decide +kernel
theorem dX10_apply_38 : decode cX10_apply 38 = .ok (.aload_n 0, 1) := by decide +kernel
theorem dX10_apply_39 : decode cX10_apply 39 = .ok (.iload_n 2, 1) := by decide +kernel
theorem dX10_apply_40 : decode cX10_apply 40 = .ok (.invokevirtual 124, 3) := by decide +kernel
theorem dX10_apply_43 : decode cX10_apply 43 = .ok (.isub, 1) := by decide +kernel
theorem dX10_apply_44 : decode cX10_apply 44 = .ok (.ireturn, 1) := by decide +kernel
theorem dX10_apply_45 : decode cX10_apply 45 = .ok (.aload_n 0, 1) := by decide +kernel
theorem dX10_apply_46 : decode cX10_apply 46 = .ok (.iconst 0, 1) := by decide +kernel
theorem dX10_apply_47 : decode cX10_apply 47 = .ok (.putfield 303, 3) := by decide +kernel
theorem dX10_apply_50 : decode cX10_apply 50 = .ok (.aload_n 0, 1) := by decide +kernel
theorem dX10_apply_51 : decode cX10_apply 51 = .ok (.iconst 0, 1) := by decide +kernel
theorem dX10_apply_52 : decode cX10_apply 52 = .ok (.putfield 306, 3) := by decide +kernel
theorem dX10_apply_55 : decode cX10_apply 55 = .ok (.iconst 0, 1) := by decide +kernel
theorem dX10_apply_56 : decode cX10_apply 56 = .ok (.istore_n 3, 1) := by decide +kernel
theorem dX10_apply_57 : decode cX10_apply 57 = .ok (.iload_n 3, 1) := by decide +kernel
theorem dX10_apply_58 : decode cX10_apply 58 = .ok (.aload_n 0, 1) := by decide +kernel
theorem dX10_apply_59 : decode cX10_apply 59 = .ok (.getfield 58, 3) := by decide +kernel
theorem dX10_apply_62 : decode cX10_apply 62 = .ok (.iload_n 1, 1) := by decide +kernel
theorem dX10_apply_63 : decode cX10_apply 63 = .ok (.iaload, 1) := by decide +kernel
theorem dX10_apply_64 : decode cX10_apply 64 = .ok (.if_icmp .ge 38, 3) := by decide +kernel
theorem dX10_apply_67 : decode cX10_apply 67 = .ok (.aload_n 0, 1) := by decide +kernel
theorem dX10_apply_68 : decode cX10_apply 68 = .ok (.bipush 40, 2) := by decide +kernel
theorem dX10_apply_70 : decode cX10_apply 70 = .ok (.iload_n 1, 1) := by decide +kernel
theorem dX10_apply_71 : decode cX10_apply 71 = .ok (.imul, 1) := by decide +kernel
theorem dX10_apply_72 : decode cX10_apply 72 = .ok (.iload_n 3, 1) := by decide +kernel
theorem dX10_apply_73 : decode cX10_apply 73 = .ok (.iadd, 1) := by decide +kernel
theorem dX10_apply_74 : decode cX10_apply 74 = .ok (.iload_n 2, 1) := by decide +kernel
theorem dX10_apply_75 : decode cX10_apply 75 = .ok (.invokevirtual 309, 3) := by decide +kernel
theorem dX10_apply_78 : decode cX10_apply 78 = .ok (.istore 4, 2) := by decide +kernel
theorem dX10_apply_80 : decode cX10_apply 80 = .ok (.iload 4, 2) := by decide +kernel
theorem dX10_apply_82 : decode cX10_apply 82 = .ok (.ifCond .le 14, 3) := by decide +kernel
theorem dX10_apply_85 : decode cX10_apply 85 = .ok (.aload_n 0, 1) := by decide +kernel
theorem dX10_apply_86 : decode cX10_apply 86 = .ok (.iload 4, 2) := by decide +kernel
theorem dX10_apply_88 : decode cX10_apply 88 = .ok (.putfield 192, 3) := by decide +kernel
theorem dX10_apply_91 : decode cX10_apply 91 = .ok (.bipush (-20), 2) := by decide +kernel
theorem dX10_apply_93 : decode cX10_apply 93 = .ok (.iload_n 3, 1) := by decide +kernel
theorem dX10_apply_94 : decode cX10_apply 94 = .ok (.isub, 1) := by decide +kernel
theorem dX10_apply_95 : decode cX10_apply 95 = .ok (.ireturn, 1) := by decide +kernel
theorem dX10_apply_96 : decode cX10_apply 96 = .ok (.iinc 3 1, 3) := by decide +kernel
theorem dX10_apply_99 : decode cX10_apply 99 = .ok (.goto (-42), 3) := by decide +kernel
theorem dX10_apply_102 : decode cX10_apply 102 = .ok (.aload_n 0, 1) := by decide +kernel
theorem dX10_apply_103 : decode cX10_apply 103 = .ok (.getfield 303, 3) := by decide +kernel
theorem dX10_apply_106 : decode cX10_apply 106 = .ok (.aload_n 0, 1) := by decide +kernel
theorem dX10_apply_107 : decode cX10_apply 107 = .ok (.iload_n 2, 1) := by decide +kernel
theorem dX10_apply_108 : decode cX10_apply 108 = .ok (.invokevirtual 152, 3) := by decide +kernel
theorem dX10_apply_111 : decode cX10_apply 111 = .ok (.if_icmp .ge 18, 3) := by decide +kernel
theorem dX10_apply_114 : decode cX10_apply 114 = .ok (.aload_n 0, 1) := by decide +kernel
theorem dX10_apply_115 : decode cX10_apply 115 = .ok (.iconst 3, 1) := by decide +kernel
theorem dX10_apply_116 : decode cX10_apply 116 = .ok (.putfield 192, 3) := by decide +kernel
theorem dX10_apply_119 : decode cX10_apply 119 = .ok (.bipush (-20), 2) := by decide +kernel
theorem dX10_apply_121 : decode cX10_apply 121 = .ok (.aload_n 0, 1) := by decide +kernel
theorem dX10_apply_122 : decode cX10_apply 122 = .ok (.getfield 58, 3) := by decide +kernel
theorem dX10_apply_125 : decode cX10_apply 125 = .ok (.iload_n 1, 1) := by decide +kernel
theorem dX10_apply_126 : decode cX10_apply 126 = .ok (.iaload, 1) := by decide +kernel
theorem dX10_apply_127 : decode cX10_apply 127 = .ok (.isub, 1) := by decide +kernel
theorem dX10_apply_128 : decode cX10_apply 128 = .ok (.ireturn, 1) := by decide +kernel
theorem dX10_apply_129 : decode cX10_apply 129 = .ok (.aload_n 0, 1) := by decide +kernel
theorem dX10_apply_130 : decode cX10_apply 130 = .ok (.iload_n 2, 1) := by decide +kernel
theorem dX10_apply_131 : decode cX10_apply 131 = .ok (.aload_n 0, 1) := by decide +kernel
theorem dX10_apply_132 : decode cX10_apply 132 = .ok (.iload_n 2, 1) := by decide +kernel
theorem dX10_apply_133 : decode cX10_apply 133 = .ok (.invokevirtual 146, 3) := by decide +kernel
theorem dX10_apply_136 : decode cX10_apply 136 = .ok (.aload_n 0, 1) := by decide +kernel
theorem dX10_apply_137 : decode cX10_apply 137 = .ok (.getfield 306, 3) := by decide +kernel
theorem dX10_apply_140 : decode cX10_apply 140 = .ok (.invokevirtual 293, 3) := by decide +kernel
theorem dX10_apply_143 : decode cX10_apply 143 = .ok (.aload_n 0, 1) := by decide +kernel
theorem dX10_apply_144 : decode cX10_apply 144 = .ok (.iconst 0, 1) := by decide +kernel
theorem dX10_apply_145 : decode cX10_apply 145 = .ok (.putfield 192, 3) := by decide +kernel
theorem dX10_apply_148 : decode cX10_apply 148 = .ok (.aload_n 0, 1) := by decide +kernel
theorem dX10_apply_149 : decode cX10_apply 149 = .ok (.getfield 306, 3) := by decide +kernel
theorem dX10_apply_152 : decode cX10_apply 152 = .ok (.ireturn, 1) := by decide +kernel
theorem dX10_strays_0 : decode cX10_strays 0 = .ok (.aload_n 0, 1) := by decide +kernel
theorem dX10_strays_1 : decode cX10_strays 1 = .ok (.getfield 7, 3) := by decide +kernel
theorem dX10_strays_4 : decode cX10_strays 4 = .ok (.iload_n 1, 1) := by decide +kernel
theorem dX10_strays_5 : decode cX10_strays 5 = .ok (.iaload, 1) := by decide +kernel
theorem dX10_strays_6 : decode cX10_strays 6 = .ok (.istore_n 2, 1) := by decide +kernel
theorem dX10_strays_7 : decode cX10_strays 7 = .ok (.aload_n 0, 1) := by decide +kernel
theorem dX10_strays_8 : decode cX10_strays 8 = .ok (.getfield 13, 3) := by decide +kernel
theorem dX10_strays_11 : decode cX10_strays 11 = .ok (.iload_n 1, 1) := by decide +kernel
theorem dX10_strays_12 : decode cX10_strays 12 = .ok (.laload, 1) := by decide +kernel
theorem dX10_strays_13 : decode cX10_strays 13 = .ok (.lconst 1, 1) := by decide +kernel
theorem dX10_strays_14 : decode cX10_strays 14 = .ok (.ladd, 1) := by decide +kernel
theorem dX10_strays_15 : decode cX10_strays 15 = .ok (.lstore_n 3, 1) := by decide +kernel
theorem dX10_strays_16 : decode cX10_strays 16 = .ok (.iload_n 2, 1) := by decide +kernel
theorem dX10_strays_17 : decode cX10_strays 17 = .ok (.tableswitch 141 0 6 #[43, 60, 73, 87, 100, 112, 122], 43) := by decide +kernel
theorem dX10_strays_60 : decode cX10_strays 60 = .ok (.aload_n 0, 1) := by decide +kernel
theorem dX10_strays_61 : decode cX10_strays 61 = .ok (.getfield 13, 3) := by decide +kernel
theorem dX10_strays_64 : decode cX10_strays 64 = .ok (.iload_n 1, 1) := by decide +kernel
theorem dX10_strays_65 : decode cX10_strays 65 = .ok (.lconst 1, 1) := by decide +kernel
theorem dX10_strays_66 : decode cX10_strays 66 = .ok (.aload_n 0, 1) := by decide +kernel
theorem dX10_strays_67 : decode cX10_strays 67 = .ok (.getfield 13, 3) := by decide +kernel
theorem dX10_strays_70 : decode cX10_strays 70 = .ok (.iload_n 1, 1) := by decide +kernel
theorem dX10_strays_71 : decode cX10_strays 71 = .ok (.laload, 1) := by decide +kernel
theorem dX10_strays_72 : decode cX10_strays 72 = .ok (.lsub, 1) := by decide +kernel
theorem dX10_strays_73 : decode cX10_strays 73 = .ok (.lastore, 1) := by decide +kernel
theorem dX10_strays_74 : decode cX10_strays 74 = .ok (.goto 98, 3) := by decide +kernel
theorem dX10_strays_77 : decode cX10_strays 77 = .ok (.aload_n 0, 1) := by decide +kernel
theorem dX10_strays_78 : decode cX10_strays 78 = .ok (.getfield 13, 3) := by decide +kernel
theorem dX10_strays_81 : decode cX10_strays 81 = .ok (.iload_n 1, 1) := by decide +kernel
theorem dX10_strays_82 : decode cX10_strays 82 = .ok (.lload_n 3, 1) := by decide +kernel
theorem dX10_strays_83 : decode cX10_strays 83 = .ok (.l2i, 1) := by decide +kernel
theorem dX10_strays_84 : decode cX10_strays 84 = .ok (.i2b, 1) := by decide +kernel
theorem dX10_strays_85 : decode cX10_strays 85 = .ok (.i2l, 1) := by decide +kernel
theorem dX10_strays_86 : decode cX10_strays 86 = .ok (.lastore, 1) := by decide +kernel
theorem dX10_strays_87 : decode cX10_strays 87 = .ok (.goto 85, 3) := by decide +kernel
theorem dX10_strays_90 : decode cX10_strays 90 = .ok (.aload_n 0, 1) := by decide +kernel
theorem dX10_strays_91 : decode cX10_strays 91 = .ok (.getfield 13, 3) := by decide +kernel
theorem dX10_strays_94 : decode cX10_strays 94 = .ok (.iload_n 1, 1) := by decide +kernel
theorem dX10_strays_95 : decode cX10_strays 95 = .ok (.lload_n 3, 1) := by decide +kernel
theorem dX10_strays_96 : decode cX10_strays 96 = .ok (.ldc2_w 312, 3) := by decide +kernel
theorem dX10_strays_99 : decode cX10_strays 99 = .ok (.land, 1) := by decide +kernel
theorem dX10_strays_100 : decode cX10_strays 100 = .ok (.lastore, 1) := by decide +kernel
theorem dX10_strays_101 : decode cX10_strays 101 = .ok (.goto 71, 3) := by decide +kernel
theorem dX10_strays_104 : decode cX10_strays 104 = .ok (.aload_n 0, 1) := by decide +kernel
theorem dX10_strays_105 : decode cX10_strays 105 = .ok (.getfield 13, 3) := by decide +kernel
theorem dX10_strays_108 : decode cX10_strays 108 = .ok (.iload_n 1, 1) := by decide +kernel
theorem dX10_strays_109 : decode cX10_strays 109 = .ok (.lload_n 3, 1) := by decide +kernel
theorem dX10_strays_110 : decode cX10_strays 110 = .ok (.l2i, 1) := by decide +kernel
theorem dX10_strays_111 : decode cX10_strays 111 = .ok (.i2s, 1) := by decide +kernel
theorem dX10_strays_112 : decode cX10_strays 112 = .ok (.i2l, 1) := by decide +kernel
theorem dX10_strays_113 : decode cX10_strays 113 = .ok (.lastore, 1) := by decide +kernel
theorem dX10_strays_114 : decode cX10_strays 114 = .ok (.goto 58, 3) := by decide +kernel
theorem dX10_strays_117 : decode cX10_strays 117 = .ok (.aload_n 0, 1) := by decide +kernel
theorem dX10_strays_118 : decode cX10_strays 118 = .ok (.getfield 13, 3) := by decide +kernel
theorem dX10_strays_121 : decode cX10_strays 121 = .ok (.iload_n 1, 1) := by decide +kernel
theorem dX10_strays_122 : decode cX10_strays 122 = .ok (.lload_n 3, 1) := by decide +kernel
theorem dX10_strays_123 : decode cX10_strays 123 = .ok (.l2i, 1) := by decide +kernel
theorem dX10_strays_124 : decode cX10_strays 124 = .ok (.i2l, 1) := by decide +kernel
theorem dX10_strays_125 : decode cX10_strays 125 = .ok (.lastore, 1) := by decide +kernel
theorem dX10_strays_126 : decode cX10_strays 126 = .ok (.goto 46, 3) := by decide +kernel
theorem dX10_strays_129 : decode cX10_strays 129 = .ok (.aload_n 0, 1) := by decide +kernel
theorem dX10_strays_130 : decode cX10_strays 130 = .ok (.getfield 13, 3) := by decide +kernel
theorem dX10_strays_133 : decode cX10_strays 133 = .ok (.iload_n 1, 1) := by decide +kernel
theorem dX10_strays_134 : decode cX10_strays 134 = .ok (.lload_n 3, 1) := by decide +kernel
theorem dX10_strays_135 : decode cX10_strays 135 = .ok (.lastore, 1) := by decide +kernel
theorem dX10_strays_136 : decode cX10_strays 136 = .ok (.goto 36, 3) := by decide +kernel
theorem dX10_strays_139 : decode cX10_strays 139 = .ok (.aload_n 0, 1) := by decide +kernel
theorem dX10_strays_140 : decode cX10_strays 140 = .ok (.getfield 17, 3) := by decide +kernel
theorem dX10_strays_143 : decode cX10_strays 143 = .ok (.iload_n 1, 1) := by decide +kernel
theorem dX10_strays_144 : decode cX10_strays 144 = .ok (.aload_n 0, 1) := by decide +kernel
theorem dX10_strays_145 : decode cX10_strays 145 = .ok (.getfield 17, 3) := by decide +kernel
theorem dX10_strays_148 : decode cX10_strays 148 = .ok (.iload_n 1, 1) := by decide +kernel
theorem dX10_strays_149 : decode cX10_strays 149 = .ok (.daload, 1) := by decide +kernel
theorem dX10_strays_150 : decode cX10_strays 150 = .ok (.d2f, 1) := by decide +kernel
theorem dX10_strays_151 : decode cX10_strays 151 = .ok (.fconst 1, 1) := by decide +kernel
theorem dX10_strays_152 : decode cX10_strays 152 = .ok (.fadd, 1) := by decide +kernel
theorem dX10_strays_153 : decode cX10_strays 153 = .ok (.f2d, 1) := by decide +kernel
theorem dX10_strays_154 : decode cX10_strays 154 = .ok (.dastore, 1) := by decide +kernel
theorem dX10_strays_155 : decode cX10_strays 155 = .ok (.goto 17, 3) := by decide +kernel
theorem dX10_strays_158 : decode cX10_strays 158 = .ok (.aload_n 0, 1) := by decide +kernel
theorem dX10_strays_159 : decode cX10_strays 159 = .ok (.getfield 17, 3) := by decide +kernel
theorem dX10_strays_162 : decode cX10_strays 162 = .ok (.iload_n 1, 1) := by decide +kernel
theorem dX10_strays_163 : decode cX10_strays 163 = .ok (.aload_n 0, 1) := by decide +kernel
theorem dX10_strays_164 : decode cX10_strays 164 = .ok (.getfield 17, 3) := by decide +kernel
theorem dX10_strays_167 : decode cX10_strays 167 = .ok (.iload_n 1, 1) := by decide +kernel
theorem dX10_strays_168 : decode cX10_strays 168 = .ok (.daload, 1) := by decide +kernel
theorem dX10_strays_169 : decode cX10_strays 169 = .ok (.dconst 1, 1) := by decide +kernel
theorem dX10_strays_170 : decode cX10_strays 170 = .ok (.dadd, 1) := by decide +kernel
theorem dX10_strays_171 : decode cX10_strays 171 = .ok (.dastore, 1) := by decide +kernel
theorem dX10_strays_172 : decode cX10_strays 172 = .ok (.return_, 1) := by decide +kernel
theorem dX10_log_0 : decode cX10_log 0 = .ok (.iload_n 1, 1) := by decide +kernel
theorem dX10_log_1 : decode cX10_log 1 = .ok (.invokestatic 141, 3) := by decide +kernel
theorem dX10_log_4 : decode cX10_log 4 = .ok (.ifCond .eq 17, 3) := by decide +kernel
theorem dX10_log_7 : decode cX10_log 7 = .ok (.iload_n 2, 1) := by decide +kernel
theorem dX10_log_8 : decode cX10_log 8 = .ok (.invokestatic 141, 3) := by decide +kernel
theorem dX10_log_11 : decode cX10_log 11 = .ok (.ifCond .eq 10, 3) := by decide +kernel
theorem dX10_log_14 : decode cX10_log 14 = .ok (.iload_n 3, 1) := by decide +kernel
theorem dX10_log_15 : decode cX10_log 15 = .ok (.invokestatic 159, 3) := by decide +kernel
theorem dX10_log_18 : decode cX10_log 18 = .ok (.ifCond .ne 5, 3) := by decide +kernel
theorem dX10_log_21 : decode cX10_log 21 = .ok (.iconst (-1), 1) := by decide +kernel
theorem dX10_log_22 : decode cX10_log 22 = .ok (.ireturn, 1) := by decide +kernel
theorem dX10_log_23 : decode cX10_log 23 = .ok (.aload_n 0, 1) := by decide +kernel
theorem dX10_log_24 : decode cX10_log 24 = .ok (.iload_n 2, 1) := by decide +kernel
theorem dX10_log_25 : decode cX10_log 25 = .ok (.invokevirtual 124, 3) := by decide +kernel
theorem dX10_log_28 : decode cX10_log 28 = .ok (.istore 5, 2) := by decide +kernel
theorem dX10_log_30 : decode cX10_log 30 = .ok (.iload 5, 2) := by decide +kernel
theorem dX10_log_32 : decode cX10_log 32 = .ok (.ifCond .le 8, 3) := by decide +kernel
theorem dX10_log_35 : decode cX10_log 35 = .ok (.iload 5, 2) := by decide +kernel
theorem dX10_log_37 : decode cX10_log 37 = .ok (.goto 34, 3) := by decide +kernel
theorem dX10_log_40 : decode cX10_log 40 = .ok (.aload_n 0, 1) := by decide +kernel
theorem dX10_log_41 : decode cX10_log 41 = .ok (.iload_n 2, 1) := by decide +kernel
theorem dX10_log_42 : decode cX10_log 42 = .ok (.invokevirtual 146, 3) := by decide +kernel
theorem dX10_log_45 : decode cX10_log 45 = .ok (.bipush 7, 2) := by decide +kernel
theorem dX10_log_47 : decode cX10_log 47 = .ok (.if_icmp .le 7, 3) := by decide +kernel
theorem dX10_log_50 : decode cX10_log 50 = .ok (.iconst 4, 1) := by decide +kernel
theorem dX10_log_51 : decode cX10_log 51 = .ok (.goto 20, 3) := by decide +kernel
theorem dX10_log_54 : decode cX10_log 54 = .ok (.aload_n 0, 1) := by decide +kernel
theorem dX10_log_55 : decode cX10_log 55 = .ok (.iload_n 2, 1) := by decide +kernel
theorem dX10_log_56 : decode cX10_log 56 = .ok (.invokevirtual 146, 3) := by decide +kernel
theorem dX10_log_59 : decode cX10_log 59 = .ok (.iload_n 3, 1) := by decide +kernel
theorem dX10_log_60 : decode cX10_log 60 = .ok (.invokestatic 80, 3) := by decide +kernel
theorem dX10_log_63 : decode cX10_log 63 = .ok (.ifCond .eq 7, 3) := by decide +kernel
theorem dX10_log_66 : decode cX10_log 66 = .ok (.iconst 0, 1) := by decide +kernel
theorem dX10_log_67 : decode cX10_log 67 = .ok (.goto 4, 3) := by decide +kernel
theorem dX10_log_70 : decode cX10_log 70 = .ok (.iconst 5, 1) := by decide +kernel
theorem dX10_log_71 : decode cX10_log 71 = .ok (.istore 5, 2) := by decide +kernel
theorem dX10_log_73 : decode cX10_log 73 = .ok (.iload 5, 2) := by decide +kernel
theorem dX10_log_75 : decode cX10_log 75 = .ok (.ifCond .le 9, 3) := by decide +kernel
theorem dX10_log_78 : decode cX10_log 78 = .ok (.bipush (-10), 2) := by decide +kernel
theorem dX10_log_80 : decode cX10_log 80 = .ok (.iload 5, 2) := by decide +kernel
theorem dX10_log_82 : decode cX10_log 82 = .ok (.isub, 1) := by decide +kernel
theorem dX10_log_83 : decode cX10_log 83 = .ok (.ireturn, 1) := by decide +kernel
theorem dX10_log_84 : decode cX10_log 84 = .ok (.iload 4, 2) := by decide +kernel
theorem dX10_log_86 : decode cX10_log 86 = .ok (.istore 6, 2) := by decide +kernel
theorem dX10_log_88 : decode cX10_log 88 = .ok (.iconst 0, 1) := by decide +kernel
theorem dX10_log_89 : decode cX10_log 89 = .ok (.istore 7, 2) := by decide +kernel
theorem dX10_log_91 : decode cX10_log 91 = .ok (.iconst 0, 1) := by decide +kernel
theorem dX10_log_92 : decode cX10_log 92 = .ok (.istore 8, 2) := by decide +kernel
theorem dX10_log_94 : decode cX10_log 94 = .ok (.iload 8, 2) := by decide +kernel
theorem dX10_log_96 : decode cX10_log 96 = .ok (.aload_n 0, 1) := by decide +kernel
theorem dX10_log_97 : decode cX10_log 97 = .ok (.iload_n 2, 1) := by decide +kernel
theorem dX10_log_98 : decode cX10_log 98 = .ok (.invokevirtual 152, 3) := by decide +kernel
theorem dX10_log_101 : decode cX10_log 101 = .ok (.if_icmp .ge 107, 3) := by decide +kernel
theorem dX10_log_104 : decode cX10_log 104 = .ok (.iload 6, 2) := by decide +kernel
theorem dX10_log_106 : decode cX10_log 106 = .ok (.ldc_w 314, 3) := by decide +kernel
theorem dX10_log_109 : decode cX10_log 109 = .ok (.imul, 1) := by decide +kernel
theorem dX10_log_110 : decode cX10_log 110 = .ok (.sipush 12345, 3) := by decide +kernel
theorem dX10_log_113 : decode cX10_log 113 = .ok (.iadd, 1) := by decide +kernel
theorem dX10_log_114 : decode cX10_log 114 = .ok (.istore 6, 2) := by decide +kernel
theorem dX10_log_116 : decode cX10_log 116 = .ok (.iload 6, 2) := by decide +kernel
theorem dX10_log_118 : decode cX10_log 118 = .ok (.bipush 16, 2) := by decide +kernel
theorem dX10_log_120 : decode cX10_log 120 = .ok (.ishr, 1) := by decide +kernel
theorem dX10_log_121 : decode cX10_log 121 = .ok (.sipush 32767, 3) := by decide +kernel
theorem dX10_log_124 : decode cX10_log 124 = .ok (.iand, 1) := by decide +kernel
theorem dX10_log_125 : decode cX10_log 125 = .ok (.bipush 8, 2) := by decide +kernel
theorem dX10_log_127 : decode cX10_log 127 = .ok (.irem, 1) := by decide +kernel
theorem dX10_log_128 : decode cX10_log 128 = .ok (.istore 9, 2) := by decide +kernel
theorem dX10_log_130 : decode cX10_log 130 = .ok (.iconst 0, 1) := by decide +kernel
theorem dX10_log_131 : decode cX10_log 131 = .ok (.istore 10, 2) := by decide +kernel
theorem dX10_log_133 : decode cX10_log 133 = .ok (.iload 10, 2) := by decide +kernel
theorem dX10_log_135 : decode cX10_log 135 = .ok (.iload 9, 2) := by decide +kernel
theorem dX10_log_137 : decode cX10_log 137 = .ok (.ifCond .ne 7, 3) := by decide +kernel
theorem dX10_log_140 : decode cX10_log 140 = .ok (.iconst 0, 1) := by decide +kernel
theorem dX10_log_141 : decode cX10_log 141 = .ok (.goto 14, 3) := by decide +kernel
theorem dX10_log_144 : decode cX10_log 144 = .ok (.iload 9, 2) := by decide +kernel
theorem dX10_log_146 : decode cX10_log 146 = .ok (.iconst 1, 1) := by decide +kernel
theorem dX10_log_147 : decode cX10_log 147 = .ok (.if_icmp .ne 7, 3) := by decide +kernel
theorem dX10_log_150 : decode cX10_log 150 = .ok (.iconst 2, 1) := by decide +kernel
theorem dX10_log_151 : decode cX10_log 151 = .ok (.goto 4, 3) := by decide +kernel
theorem dX10_log_154 : decode cX10_log 154 = .ok (.iconst 1, 1) := by decide +kernel
theorem dX10_log_155 : decode cX10_log 155 = .ok (.if_icmp .ge 29, 3) := by decide +kernel
theorem dX10_log_158 : decode cX10_log 158 = .ok (.aload_n 0, 1) := by decide +kernel
theorem dX10_log_159 : decode cX10_log 159 = .ok (.aload_n 0, 1) := by decide +kernel
theorem dX10_log_160 : decode cX10_log 160 = .ok (.iload_n 2, 1) := by decide +kernel
theorem dX10_log_161 : decode cX10_log 161 = .ok (.iload 8, 2) := by decide +kernel
theorem dX10_log_163 : decode cX10_log 163 = .ok (.invokevirtual 135, 3) := by decide +kernel
theorem dX10_log_166 : decode cX10_log 166 = .ok (.sipush 520, 3) := by decide +kernel
theorem dX10_log_169 : decode cX10_log 169 = .ok (.iload 7, 2) := by decide +kernel
theorem dX10_log_171 : decode cX10_log 171 = .ok (.iadd, 1) := by decide +kernel
theorem dX10_log_172 : decode cX10_log 172 = .ok (.invokevirtual 229, 3) := by decide +kernel
theorem dX10_log_175 : decode cX10_log 175 = .ok (.iinc 7 1, 3) := by decide +kernel
theorem dX10_log_178 : decode cX10_log 178 = .ok (.iinc 10 1, 3) := by decide +kernel
theorem dX10_log_181 : decode cX10_log 181 = .ok (.goto (-48), 3) := by decide +kernel
theorem dX10_log_184 : decode cX10_log 184 = .ok (.iload 9, 2) := by decide +kernel
theorem dX10_log_186 : decode cX10_log 186 = .ok (.iconst 2, 1) := by decide +kernel
theorem dX10_log_187 : decode cX10_log 187 = .ok (.if_icmp .ne 15, 3) := by decide +kernel
theorem dX10_log_190 : decode cX10_log 190 = .ok (.aload_n 0, 1) := by decide +kernel
theorem dX10_log_191 : decode cX10_log 191 = .ok (.sipush 520, 3) := by decide +kernel
theorem dX10_log_194 : decode cX10_log 194 = .ok (.iload 7, 2) := by decide +kernel
theorem dX10_log_196 : decode cX10_log 196 = .ok (.iadd, 1) := by decide +kernel
theorem dX10_log_197 : decode cX10_log 197 = .ok (.iconst 1, 1) := by decide +kernel
theorem dX10_log_198 : decode cX10_log 198 = .ok (.isub, 1) := by decide +kernel
theorem dX10_log_199 : decode cX10_log 199 = .ok (.invokevirtual 315, 3) := by decide +kernel
theorem dX10_log_202 : decode cX10_log 202 = .ok (.iinc 8 1, 3) := by decide +kernel
theorem dX10_log_205 : decode cX10_log 205 = .ok (.goto (-111), 3) := by decide +kernel
theorem dX10_log_208 : decode cX10_log 208 = .ok (.iload 7, 2) := by decide +kernel
theorem dX10_log_210 : decode cX10_log 210 = .ok (.bipush 20, 2) := by decide +kernel
theorem dX10_log_212 : decode cX10_log 212 = .ok (.if_icmp .le 6, 3) := by decide +kernel
theorem dX10_log_215 : decode cX10_log 215 = .ok (.bipush (-3), 2) := by decide +kernel
theorem dX10_log_217 : decode cX10_log 217 = .ok (.ireturn, 1) := by decide +kernel
theorem dX10_log_218 : decode cX10_log 218 = .ok (.aload_n 0, 1) := by decide +kernel
theorem dX10_log_219 : decode cX10_log 219 = .ok (.iload_n 1, 1) := by decide +kernel
theorem dX10_log_220 : decode cX10_log 220 = .ok (.iload_n 3, 1) := by decide +kernel
theorem dX10_log_221 : decode cX10_log 221 = .ok (.iload 7, 2) := by decide +kernel
theorem dX10_log_223 : decode cX10_log 223 = .ok (.invokevirtual 293, 3) := by decide +kernel
theorem dX10_log_226 : decode cX10_log 226 = .ok (.iload 7, 2) := by decide +kernel
theorem dX10_log_228 : decode cX10_log 228 = .ok (.ireturn, 1) := by decide +kernel
theorem dX10_draw_0 : decode cX10_draw 0 = .ok (.iload_n 1, 1) := by decide +kernel
theorem dX10_draw_1 : decode cX10_draw 1 = .ok (.invokestatic 141, 3) := by decide +kernel
theorem dX10_draw_4 : decode cX10_draw 4 = .ok (.ifCond .eq 22, 3) := by decide +kernel
theorem dX10_draw_7 : decode cX10_draw 7 = .ok (.iload_n 2, 1) := by decide +kernel
theorem dX10_draw_8 : decode cX10_draw 8 = .ok (.invokestatic 184, 3) := by decide +kernel
theorem dX10_draw_11 : decode cX10_draw 11 = .ok (.ifCond .eq 15, 3) := by decide +kernel
theorem dX10_draw_14 : decode cX10_draw 14 = .ok (.iload_n 3, 1) := by decide +kernel
theorem dX10_draw_15 : decode cX10_draw 15 = .ok (.i2l, 1) := by decide +kernel
theorem dX10_draw_16 : decode cX10_draw 16 = .ok (.lconst 0, 1) := by decide +kernel
theorem dX10_draw_17 : decode cX10_draw 17 = .ok (.ldc2_w 190, 3) := by decide +kernel
theorem dX10_draw_20 : decode cX10_draw 20 = .ok (.invokestatic 72, 3) := by decide +kernel
theorem dX10_draw_23 : decode cX10_draw 23 = .ok (.ifCond .ne 5, 3) := by decide +kernel
theorem dX10_draw_26 : decode cX10_draw 26 = .ok (.iconst (-1), 1) := by decide +kernel
theorem dX10_draw_27 : decode cX10_draw 27 = .ok (.ireturn, 1) := by decide +kernel
theorem dX10_draw_28 : decode cX10_draw 28 = .ok (.iload 4, 2) := by decide +kernel
theorem dX10_draw_30 : decode cX10_draw 30 = .ok (.istore 5, 2) := by decide +kernel
theorem dX10_draw_32 : decode cX10_draw 32 = .ok (.iconst 0, 1) := by decide +kernel
theorem dX10_draw_33 : decode cX10_draw 33 = .ok (.istore 6, 2) := by decide +kernel
theorem dX10_draw_35 : decode cX10_draw 35 = .ok (.iload 6, 2) := by decide +kernel
theorem dX10_draw_37 : decode cX10_draw 37 = .ok (.iload_n 3, 1) := by decide +kernel
theorem dX10_draw_38 : decode cX10_draw 38 = .ok (.if_icmp .ge 106, 3) := by decide +kernel
theorem dX10_draw_41 : decode cX10_draw 41 = .ok (.iload 5, 2) := by decide +kernel
theorem dX10_draw_43 : decode cX10_draw 43 = .ok (.ldc_w 314, 3) := by decide +kernel
theorem dX10_draw_46 : decode cX10_draw 46 = .ok (.imul, 1) := by decide +kernel
theorem dX10_draw_47 : decode cX10_draw 47 = .ok (.sipush 12345, 3) := by decide +kernel
theorem dX10_draw_50 : decode cX10_draw 50 = .ok (.iadd, 1) := by decide +kernel
theorem dX10_draw_51 : decode cX10_draw 51 = .ok (.istore 5, 2) := by decide +kernel
theorem dX10_draw_53 : decode cX10_draw 53 = .ok (.iload 5, 2) := by decide +kernel
theorem dX10_draw_55 : decode cX10_draw 55 = .ok (.bipush 16, 2) := by decide +kernel
theorem dX10_draw_57 : decode cX10_draw 57 = .ok (.ishr, 1) := by decide +kernel
theorem dX10_draw_58 : decode cX10_draw 58 = .ok (.sipush 32767, 3) := by decide +kernel
theorem dX10_draw_61 : decode cX10_draw 61 = .ok (.iand, 1) := by decide +kernel
theorem dX10_draw_62 : decode cX10_draw 62 = .ok (.istore 7, 2) := by decide +kernel
theorem dX10_draw_64 : decode cX10_draw 64 = .ok (.iload_n 2, 1) := by decide +kernel
theorem dX10_draw_65 : decode cX10_draw 65 = .ok (.bipush 9, 2) := by decide +kernel
theorem dX10_draw_67 : decode cX10_draw 67 = .ok (.if_icmp .ne 11, 3) := by decide +kernel
theorem dX10_draw_70 : decode cX10_draw 70 = .ok (.iload 7, 2) := by decide +kernel
theorem dX10_draw_72 : decode cX10_draw 72 = .ok (.bipush 11, 2) := by decide +kernel
theorem dX10_draw_74 : decode cX10_draw 74 = .ok (.irem, 1) := by decide +kernel
theorem dX10_draw_75 : decode cX10_draw 75 = .ok (.goto 4, 3) := by decide +kernel
theorem dX10_draw_78 : decode cX10_draw 78 = .ok (.iload_n 2, 1) := by decide +kernel
theorem dX10_draw_79 : decode cX10_draw 79 = .ok (.istore 8, 2) := by decide +kernel
theorem dX10_draw_81 : decode cX10_draw 81 = .ok (.sipush 520, 3) := by decide +kernel
theorem dX10_draw_84 : decode cX10_draw 84 = .ok (.iload 6, 2) := by decide +kernel
theorem dX10_draw_86 : decode cX10_draw 86 = .ok (.iadd, 1) := by decide +kernel
theorem dX10_draw_87 : decode cX10_draw 87 = .ok (.istore 9, 2) := by decide +kernel
theorem dX10_draw_89 : decode cX10_draw 89 = .ok (.aload_n 0, 1) := by decide +kernel
theorem dX10_draw_90 : decode cX10_draw 90 = .ok (.iload 9, 2) := by decide +kernel
theorem dX10_draw_92 : decode cX10_draw 92 = .ok (.iload 8, 2) := by decide +kernel
theorem dX10_draw_94 : decode cX10_draw 94 = .ok (.iload 7, 2) := by decide +kernel
theorem dX10_draw_96 : decode cX10_draw 96 = .ok (.bipush 16, 2) := by decide +kernel
theorem dX10_draw_98 : decode cX10_draw 98 = .ok (.idiv, 1) := by decide +kernel
theorem dX10_draw_99 : decode cX10_draw 99 = .ok (.bipush 64, 2) := by decide +kernel
theorem dX10_draw_101 : decode cX10_draw 101 = .ok (.irem, 1) := by decide +kernel
theorem dX10_draw_102 : decode cX10_draw 102 = .ok (.bipush 8, 2) := by decide +kernel
theorem dX10_draw_104 : decode cX10_draw 104 = .ok (.isub, 1) := by decide +kernel
theorem dX10_draw_105 : decode cX10_draw 105 = .ok (.invokevirtual 174, 3) := by decide +kernel
theorem dX10_draw_108 : decode cX10_draw 108 = .ok (.iload 8, 2) := by decide +kernel
theorem dX10_draw_110 : decode cX10_draw 110 = .ok (.iconst 5, 1) := by decide +kernel
theorem dX10_draw_111 : decode cX10_draw 111 = .ok (.if_icmp .ne 27, 3) := by decide +kernel
theorem dX10_draw_114 : decode cX10_draw 114 = .ok (.iload 7, 2) := by decide +kernel
theorem dX10_draw_116 : decode cX10_draw 116 = .ok (.bipush 16, 2) := by decide +kernel
theorem dX10_draw_118 : decode cX10_draw 118 = .ok (.idiv, 1) := by decide +kernel
theorem dX10_draw_119 : decode cX10_draw 119 = .ok (.iconst 2, 1) := by decide +kernel
theorem dX10_draw_120 : decode cX10_draw 120 = .ok (.irem, 1) := by decide +kernel
theorem dX10_draw_121 : decode cX10_draw 121 = .ok (.iconst 1, 1) := by decide +kernel
theorem dX10_draw_122 : decode cX10_draw 122 = .ok (.if_icmp .ne 16, 3) := by decide +kernel
theorem dX10_draw_125 : decode cX10_draw 125 = .ok (.aload_n 0, 1) := by decide +kernel
theorem dX10_draw_126 : decode cX10_draw 126 = .ok (.getfield 13, 3) := by decide +kernel
theorem dX10_draw_129 : decode cX10_draw 129 = .ok (.iload 9, 2) := by decide +kernel
theorem dX10_draw_131 : decode cX10_draw 131 = .ok (.dup2, 1) := by decide +kernel
theorem dX10_draw_132 : decode cX10_draw 132 = .ok (.laload, 1) := by decide +kernel
theorem dX10_draw_133 : decode cX10_draw 133 = .ok (.ldc2_w 319, 3) := by decide +kernel
theorem dX10_draw_136 : decode cX10_draw 136 = .ok (.lmul, 1) := by decide +kernel
theorem dX10_draw_137 : decode cX10_draw 137 = .ok (.lastore, 1) := by decide +kernel
theorem dX10_draw_138 : decode cX10_draw 138 = .ok (.iinc 6 1, 3) := by decide +kernel
theorem dX10_draw_141 : decode cX10_draw 141 = .ok (.goto (-106), 3) := by decide +kernel
theorem dX10_draw_144 : decode cX10_draw 144 = .ok (.aload_n 0, 1) := by decide +kernel
theorem dX10_draw_145 : decode cX10_draw 145 = .ok (.iload_n 1, 1) := by decide +kernel
theorem dX10_draw_146 : decode cX10_draw 146 = .ok (.iload_n 2, 1) := by decide +kernel
theorem dX10_draw_147 : decode cX10_draw 147 = .ok (.iload_n 3, 1) := by decide +kernel
theorem dX10_draw_148 : decode cX10_draw 148 = .ok (.invokevirtual 293, 3) := by decide +kernel
theorem dX10_draw_151 : decode cX10_draw 151 = .ok (.iconst 1, 1) := by decide +kernel
theorem dX10_draw_152 : decode cX10_draw 152 = .ok (.ireturn, 1) := by decide +kernel
theorem dX10_keep_0 : decode cX10_keep 0 = .ok (.iload_n 1, 1) := by decide +kernel
theorem dX10_keep_1 : decode cX10_keep 1 = .ok (.i2l, 1) := by decide +kernel
theorem dX10_keep_2 : decode cX10_keep 2 = .ok (.lconst 0, 1) := by decide +kernel
theorem dX10_keep_3 : decode cX10_keep 3 = .ok (.lconst 1, 1) := by decide +kernel
theorem dX10_keep_4 : decode cX10_keep 4 = .ok (.invokestatic 72, 3) := by decide +kernel
theorem dX10_keep_7 : decode cX10_keep 7 = .ok (.ifCond .ne 5, 3) := by decide +kernel
theorem dX10_keep_10 : decode cX10_keep 10 = .ok (.iconst (-1), 1) := by decide +kernel
theorem dX10_keep_11 : decode cX10_keep 11 = .ok (.ireturn, 1) := by decide +kernel
theorem dX10_keep_12 : decode cX10_keep 12 = .ok (.aload_n 0, 1) := by decide +kernel
theorem dX10_keep_13 : decode cX10_keep 13 = .ok (.getfield 64, 3) := by decide +kernel
theorem dX10_keep_16 : decode cX10_keep 16 = .ok (.iload_n 1, 1) := by decide +kernel
theorem dX10_keep_17 : decode cX10_keep 17 = .ok (.baload, 1) := by decide +kernel
theorem dX10_keep_18 : decode cX10_keep 18 = .ok (.invokestatic 200, 3) := by decide +kernel
theorem dX10_keep_21 : decode cX10_keep 21 = .ok (.istore_n 2, 1) := by decide +kernel
theorem dX10_keep_22 : decode cX10_keep 22 = .ok (.aload_n 0, 1) := by decide +kernel
theorem dX10_keep_23 : decode cX10_keep 23 = .ok (.getfield 64, 3) := by decide +kernel
theorem dX10_keep_26 : decode cX10_keep 26 = .ok (.iload_n 1, 1) := by decide +kernel
theorem dX10_keep_27 : decode cX10_keep 27 = .ok (.iconst 1, 1) := by decide +kernel
theorem dX10_keep_28 : decode cX10_keep 28 = .ok (.bastore, 1) := by decide +kernel
theorem dX10_keep_29 : decode cX10_keep 29 = .ok (.iconst 0, 1) := by decide +kernel
theorem dX10_keep_30 : decode cX10_keep 30 = .ok (.istore_n 3, 1) := by decide +kernel
theorem dX10_keep_31 : decode cX10_keep 31 = .ok (.iload_n 3, 1) := by decide +kernel
theorem dX10_keep_32 : decode cX10_keep 32 = .ok (.bipush 8, 2) := by decide +kernel
theorem dX10_keep_34 : decode cX10_keep 34 = .ok (.if_icmp .ge 40, 3) := by decide +kernel
theorem dX10_keep_37 : decode cX10_keep 37 = .ok (.aload_n 0, 1) := by decide +kernel
theorem dX10_keep_38 : decode cX10_keep 38 = .ok (.getfield 67, 3) := by decide +kernel
theorem dX10_keep_41 : decode cX10_keep 41 = .ok (.bipush 8, 2) := by decide +kernel
theorem dX10_keep_43 : decode cX10_keep 43 = .ok (.iload_n 1, 1) := by decide +kernel
theorem dX10_keep_44 : decode cX10_keep 44 = .ok (.imul, 1) := by decide +kernel
theorem dX10_keep_45 : decode cX10_keep 45 = .ok (.iload_n 3, 1) := by decide +kernel
theorem dX10_keep_46 : decode cX10_keep 46 = .ok (.iadd, 1) := by decide +kernel
theorem dX10_keep_47 : decode cX10_keep 47 = .ok (.aload_n 0, 1) := by decide +kernel
theorem dX10_keep_48 : decode cX10_keep 48 = .ok (.getfield 27, 3) := by decide +kernel
theorem dX10_keep_51 : decode cX10_keep 51 = .ok (.iload_n 3, 1) := by decide +kernel
theorem dX10_keep_52 : decode cX10_keep 52 = .ok (.iaload, 1) := by decide +kernel
theorem dX10_keep_53 : decode cX10_keep 53 = .ok (.iastore, 1) := by decide +kernel
theorem dX10_keep_54 : decode cX10_keep 54 = .ok (.aload_n 0, 1) := by decide +kernel
theorem dX10_keep_55 : decode cX10_keep 55 = .ok (.iload_n 3, 1) := by decide +kernel
theorem dX10_keep_56 : decode cX10_keep 56 = .ok (.bipush 8, 2) := by decide +kernel
theorem dX10_keep_58 : decode cX10_keep 58 = .ok (.bipush 8, 2) := by decide +kernel
theorem dX10_keep_60 : decode cX10_keep 60 = .ok (.iload_n 1, 1) := by decide +kernel
theorem dX10_keep_61 : decode cX10_keep 61 = .ok (.imul, 1) := by decide +kernel
theorem dX10_keep_62 : decode cX10_keep 62 = .ok (.iadd, 1) := by decide +kernel
theorem dX10_keep_63 : decode cX10_keep 63 = .ok (.iload_n 3, 1) := by decide +kernel
theorem dX10_keep_64 : decode cX10_keep 64 = .ok (.iadd, 1) := by decide +kernel
theorem dX10_keep_65 : decode cX10_keep 65 = .ok (.invokevirtual 243, 3) := by decide +kernel
theorem dX10_keep_68 : decode cX10_keep 68 = .ok (.iinc 3 1, 3) := by decide +kernel
theorem dX10_keep_71 : decode cX10_keep 71 = .ok (.goto (-40), 3) := by decide +kernel
theorem dX10_keep_74 : decode cX10_keep 74 = .ok (.iload_n 2, 1) := by decide +kernel
theorem dX10_keep_75 : decode cX10_keep 75 = .ok (.ireturn, 1) := by decide +kernel
theorem dX10_rowsHeld_0 : decode cX10_rowsHeld 0 = .ok (.iconst 0, 1) := by decide +kernel
theorem dX10_rowsHeld_1 : decode cX10_rowsHeld 1 = .ok (.istore_n 1, 1) := by decide +kernel
theorem dX10_rowsHeld_2 : decode cX10_rowsHeld 2 = .ok (.iconst 0, 1) := by decide +kernel
theorem dX10_rowsHeld_3 : decode cX10_rowsHeld 3 = .ok (.istore_n 2, 1) := by decide +kernel
theorem dX10_rowsHeld_4 : decode cX10_rowsHeld 4 = .ok (.iload_n 2, 1) := by decide +kernel
theorem dX10_rowsHeld_5 : decode cX10_rowsHeld 5 = .ok (.bipush 8, 2) := by decide +kernel
theorem dX10_rowsHeld_7 : decode cX10_rowsHeld 7 = .ok (.if_icmp .ge 29, 3) := by decide +kernel
theorem dX10_rowsHeld_10 : decode cX10_rowsHeld 10 = .ok (.iload_n 1, 1) := by decide +kernel
theorem dX10_rowsHeld_11 : decode cX10_rowsHeld 11 = .ok (.aload_n 0, 1) := by decide +kernel
theorem dX10_rowsHeld_12 : decode cX10_rowsHeld 12 = .ok (.getfield 27, 3) := by decide +kernel
theorem dX10_rowsHeld_15 : decode cX10_rowsHeld 15 = .ok (.iload_n 2, 1) := by decide +kernel
theorem dX10_rowsHeld_16 : decode cX10_rowsHeld 16 = .ok (.iaload, 1) := by decide +kernel
theorem dX10_rowsHeld_17 : decode cX10_rowsHeld 17 = .ok (.ifCond .lt 7, 3) := by decide +kernel
theorem dX10_rowsHeld_20 : decode cX10_rowsHeld 20 = .ok (.iconst 1, 1) := by decide +kernel
theorem dX10_rowsHeld_21 : decode cX10_rowsHeld 21 = .ok (.goto 4, 3) := by decide +kernel
theorem dX10_rowsHeld_24 : decode cX10_rowsHeld 24 = .ok (.iconst 0, 1) := by decide +kernel
theorem dX10_rowsHeld_25 : decode cX10_rowsHeld 25 = .ok (.invokestatic 200, 3) := by decide +kernel
theorem dX10_rowsHeld_28 : decode cX10_rowsHeld 28 = .ok (.iadd, 1) := by decide +kernel
theorem dX10_rowsHeld_29 : decode cX10_rowsHeld 29 = .ok (.istore_n 1, 1) := by decide +kernel
theorem dX10_rowsHeld_30 : decode cX10_rowsHeld 30 = .ok (.iinc 2 1, 3) := by decide +kernel
theorem dX10_rowsHeld_33 : decode cX10_rowsHeld 33 = .ok (.goto (-29), 3) := by decide +kernel
theorem dX10_rowsHeld_36 : decode cX10_rowsHeld 36 = .ok (.iload_n 1, 1) := by decide +kernel
theorem dX10_rowsHeld_37 : decode cX10_rowsHeld 37 = .ok (.ireturn, 1) := by decide +kernel
theorem dX10_back_0 : decode cX10_back 0 = .ok (.iload_n 1, 1) := by decide +kernel
theorem dX10_back_1 : decode cX10_back 1 = .ok (.i2l, 1) := by decide +kernel
theorem dX10_back_2 : decode cX10_back 2 = .ok (.lconst 0, 1) := by decide +kernel
theorem dX10_back_3 : decode cX10_back 3 = .ok (.lconst 1, 1) := by decide +kernel
theorem dX10_back_4 : decode cX10_back 4 = .ok (.invokestatic 72, 3) := by decide +kernel
theorem dX10_back_7 : decode cX10_back 7 = .ok (.ifCond .ne 5, 3) := by decide +kernel
theorem dX10_back_10 : decode cX10_back 10 = .ok (.iconst (-1), 1) := by decide +kernel
theorem dX10_back_11 : decode cX10_back 11 = .ok (.ireturn, 1) := by decide +kernel
theorem dX10_back_12 : decode cX10_back 12 = .ok (.aload_n 0, 1) := by decide +kernel
theorem dX10_back_13 : decode cX10_back 13 = .ok (.getfield 64, 3) := by decide +kernel
theorem dX10_back_16 : decode cX10_back 16 = .ok (.iload_n 1, 1) := by decide +kernel
theorem dX10_back_17 : decode cX10_back 17 = .ok (.baload, 1) := by decide +kernel
theorem dX10_back_18 : decode cX10_back 18 = .ok (.ifCond .ne 6, 3) := by decide +kernel
theorem dX10_back_21 : decode cX10_back 21 = .ok (.bipush (-2), 2) := by decide +kernel
theorem dX10_back_23 : decode cX10_back 23 = .ok (.ireturn, 1) := by decide +kernel
theorem dX10_back_24 : decode cX10_back 24 = .ok (.iconst 0, 1) := by decide +kernel
theorem dX10_back_25 : decode cX10_back 25 = .ok (.istore_n 2, 1) := by decide +kernel
theorem dX10_back_26 : decode cX10_back 26 = .ok (.iload_n 2, 1) := by decide +kernel
theorem dX10_back_27 : decode cX10_back 27 = .ok (.bipush 8, 2) := by decide +kernel
theorem dX10_back_29 : decode cX10_back 29 = .ok (.if_icmp .ge 40, 3) := by decide +kernel
theorem dX10_back_32 : decode cX10_back 32 = .ok (.aload_n 0, 1) := by decide +kernel
theorem dX10_back_33 : decode cX10_back 33 = .ok (.getfield 27, 3) := by decide +kernel
theorem dX10_back_36 : decode cX10_back 36 = .ok (.iload_n 2, 1) := by decide +kernel
theorem dX10_back_37 : decode cX10_back 37 = .ok (.aload_n 0, 1) := by decide +kernel
theorem dX10_back_38 : decode cX10_back 38 = .ok (.getfield 67, 3) := by decide +kernel
theorem dX10_back_41 : decode cX10_back 41 = .ok (.bipush 8, 2) := by decide +kernel
theorem dX10_back_43 : decode cX10_back 43 = .ok (.iload_n 1, 1) := by decide +kernel
theorem dX10_back_44 : decode cX10_back 44 = .ok (.imul, 1) := by decide +kernel
theorem dX10_back_45 : decode cX10_back 45 = .ok (.iload_n 2, 1) := by decide +kernel
theorem dX10_back_46 : decode cX10_back 46 = .ok (.iadd, 1) := by decide +kernel
theorem dX10_back_47 : decode cX10_back 47 = .ok (.iaload, 1) := by decide +kernel
theorem dX10_back_48 : decode cX10_back 48 = .ok (.iastore, 1) := by decide +kernel
theorem dX10_back_49 : decode cX10_back 49 = .ok (.aload_n 0, 1) := by decide +kernel
theorem dX10_back_50 : decode cX10_back 50 = .ok (.bipush 8, 2) := by decide +kernel
theorem dX10_back_52 : decode cX10_back 52 = .ok (.bipush 8, 2) := by decide +kernel
theorem dX10_back_54 : decode cX10_back 54 = .ok (.iload_n 1, 1) := by decide +kernel
theorem dX10_back_55 : decode cX10_back 55 = .ok (.imul, 1) := by decide +kernel
theorem dX10_back_56 : decode cX10_back 56 = .ok (.iadd, 1) := by decide +kernel
theorem dX10_back_57 : decode cX10_back 57 = .ok (.iload_n 2, 1) := by decide +kernel
theorem dX10_back_58 : decode cX10_back 58 = .ok (.iadd, 1) := by decide +kernel
theorem dX10_back_59 : decode cX10_back 59 = .ok (.iload_n 2, 1) := by decide +kernel
theorem dX10_back_60 : decode cX10_back 60 = .ok (.invokevirtual 243, 3) := by decide +kernel
theorem dX10_back_63 : decode cX10_back 63 = .ok (.iinc 2 1, 3) := by decide +kernel
theorem dX10_back_66 : decode cX10_back 66 = .ok (.goto (-40), 3) := by decide +kernel
theorem dX10_back_69 : decode cX10_back 69 = .ok (.aload_n 0, 1) := by decide +kernel
theorem dX10_back_70 : decode cX10_back 70 = .ok (.invokevirtual 321, 3) := by decide +kernel
theorem dX10_back_73 : decode cX10_back 73 = .ok (.ireturn, 1) := by decide +kernel
theorem dX10_ofRows_0 : decode cX10_ofRows 0 = .ok (.iconst 0, 1) := by decide +kernel
theorem dX10_ofRows_1 : decode cX10_ofRows 1 = .ok (.istore_n 2, 1) := by decide +kernel
theorem dX10_ofRows_2 : decode cX10_ofRows 2 = .ok (.iconst 0, 1) := by decide +kernel
theorem dX10_ofRows_3 : decode cX10_ofRows 3 = .ok (.istore_n 3, 1) := by decide +kernel
theorem dX10_ofRows_4 : decode cX10_ofRows 4 = .ok (.iload_n 3, 1) := by decide +kernel
theorem dX10_ofRows_5 : decode cX10_ofRows 5 = .ok (.bipush 8, 2) := by decide +kernel
theorem dX10_ofRows_7 : decode cX10_ofRows 7 = .ok (.if_icmp .ge 97, 3) := by decide +kernel
theorem dX10_ofRows_10 : decode cX10_ofRows 10 = .ok (.aload_n 0, 1) := by decide +kernel
theorem dX10_ofRows_11 : decode cX10_ofRows 11 = .ok (.iload_n 3, 1) := by decide +kernel
theorem dX10_ofRows_12 : decode cX10_ofRows 12 = .ok (.invokevirtual 128, 3) := by decide +kernel
theorem dX10_ofRows_15 : decode cX10_ofRows 15 = .ok (.ifCond .eq 83, 3) := by decide +kernel
theorem dX10_ofRows_18 : decode cX10_ofRows 18 = .ok (.iload_n 2, 1) := by decide +kernel
theorem dX10_ofRows_19 : decode cX10_ofRows 19 = .ok (.iload_n 1, 1) := by decide +kernel
theorem dX10_ofRows_20 : decode cX10_ofRows 20 = .ok (.iconst 1, 1) := by decide +kernel
theorem dX10_ofRows_21 : decode cX10_ofRows 21 = .ok (.if_icmp .ne 7, 3) := by decide +kernel
theorem dX10_ofRows_24 : decode cX10_ofRows 24 = .ok (.iconst 1, 1) := by decide +kernel
theorem dX10_ofRows_25 : decode cX10_ofRows 25 = .ok (.goto 18, 3) := by decide +kernel
theorem dX10_ofRows_28 : decode cX10_ofRows 28 = .ok (.iload_n 1, 1) := by decide +kernel
theorem dX10_ofRows_29 : decode cX10_ofRows 29 = .ok (.iconst 2, 1) := by decide +kernel
theorem dX10_ofRows_30 : decode cX10_ofRows 30 = .ok (.if_icmp .ne 12, 3) := by decide +kernel
theorem dX10_ofRows_33 : decode cX10_ofRows 33 = .ok (.aload_n 0, 1) := by decide +kernel
theorem dX10_ofRows_34 : decode cX10_ofRows 34 = .ok (.getfield 24, 3) := by decide +kernel
theorem dX10_ofRows_37 : decode cX10_ofRows 37 = .ok (.iload_n 3, 1) := by decide +kernel
theorem dX10_ofRows_38 : decode cX10_ofRows 38 = .ok (.iaload, 1) := by decide +kernel
theorem dX10_ofRows_39 : decode cX10_ofRows 39 = .ok (.goto 4, 3) := by decide +kernel
theorem dX10_ofRows_42 : decode cX10_ofRows 42 = .ok (.iconst 0, 1) := by decide +kernel
theorem dX10_ofRows_43 : decode cX10_ofRows 43 = .ok (.iadd, 1) := by decide +kernel
theorem dX10_ofRows_44 : decode cX10_ofRows 44 = .ok (.istore_n 2, 1) := by decide +kernel
theorem dX10_ofRows_45 : decode cX10_ofRows 45 = .ok (.iconst 0, 1) := by decide +kernel
theorem dX10_ofRows_46 : decode cX10_ofRows 46 = .ok (.istore 4, 2) := by decide +kernel
theorem dX10_ofRows_48 : decode cX10_ofRows 48 = .ok (.iload 4, 2) := by decide +kernel
theorem dX10_ofRows_50 : decode cX10_ofRows 50 = .ok (.aload_n 0, 1) := by decide +kernel
theorem dX10_ofRows_51 : decode cX10_ofRows 51 = .ok (.getfield 24, 3) := by decide +kernel
theorem dX10_ofRows_54 : decode cX10_ofRows 54 = .ok (.iload_n 3, 1) := by decide +kernel
theorem dX10_ofRows_55 : decode cX10_ofRows 55 = .ok (.iaload, 1) := by decide +kernel
theorem dX10_ofRows_56 : decode cX10_ofRows 56 = .ok (.if_icmp .ge 42, 3) := by decide +kernel
theorem dX10_ofRows_59 : decode cX10_ofRows 59 = .ok (.iload_n 1, 1) := by decide +kernel
theorem dX10_ofRows_60 : decode cX10_ofRows 60 = .ok (.iconst 3, 1) := by decide +kernel
theorem dX10_ofRows_61 : decode cX10_ofRows 61 = .ok (.if_icmp .ne 37, 3) := by decide +kernel
theorem dX10_ofRows_64 : decode cX10_ofRows 64 = .ok (.iload_n 2, 1) := by decide +kernel
theorem dX10_ofRows_65 : decode cX10_ofRows 65 = .ok (.aload_n 0, 1) := by decide +kernel
theorem dX10_ofRows_66 : decode cX10_ofRows 66 = .ok (.getfield 7, 3) := by decide +kernel
theorem dX10_ofRows_69 : decode cX10_ofRows 69 = .ok (.bipush 20, 2) := by decide +kernel
theorem dX10_ofRows_71 : decode cX10_ofRows 71 = .ok (.iload_n 3, 1) := by decide +kernel
theorem dX10_ofRows_72 : decode cX10_ofRows 72 = .ok (.imul, 1) := by decide +kernel
theorem dX10_ofRows_73 : decode cX10_ofRows 73 = .ok (.iload 4, 2) := by decide +kernel
theorem dX10_ofRows_75 : decode cX10_ofRows 75 = .ok (.iadd, 1) := by decide +kernel
theorem dX10_ofRows_76 : decode cX10_ofRows 76 = .ok (.iaload, 1) := by decide +kernel
theorem dX10_ofRows_77 : decode cX10_ofRows 77 = .ok (.bipush 9, 2) := by decide +kernel
theorem dX10_ofRows_79 : decode cX10_ofRows 79 = .ok (.if_icmp .ne 7, 3) := by decide +kernel
theorem dX10_ofRows_82 : decode cX10_ofRows 82 = .ok (.iconst 1, 1) := by decide +kernel
theorem dX10_ofRows_83 : decode cX10_ofRows 83 = .ok (.goto 4, 3) := by decide +kernel
theorem dX10_ofRows_86 : decode cX10_ofRows 86 = .ok (.iconst 0, 1) := by decide +kernel
theorem dX10_ofRows_87 : decode cX10_ofRows 87 = .ok (.invokestatic 200, 3) := by decide +kernel
theorem dX10_ofRows_90 : decode cX10_ofRows 90 = .ok (.iadd, 1) := by decide +kernel
theorem dX10_ofRows_91 : decode cX10_ofRows 91 = .ok (.istore_n 2, 1) := by decide +kernel
theorem dX10_ofRows_92 : decode cX10_ofRows 92 = .ok (.iinc 4 1, 3) := by decide +kernel
theorem dX10_ofRows_95 : decode cX10_ofRows 95 = .ok (.goto (-47), 3) := by decide +kernel
theorem dX10_ofRows_98 : decode cX10_ofRows 98 = .ok (.iinc 3 1, 3) := by decide +kernel
theorem dX10_ofRows_101 : decode cX10_ofRows 101 = .ok (.goto (-97), 3) := by decide +kernel
theorem dX10_ofRows_104 : decode cX10_ofRows 104 = .ok (.iload_n 2, 1) := by decide +kernel
theorem dX10_ofRows_105 : decode cX10_ofRows 105 = .ok (.ireturn, 1) := by decide +kernel
theorem dX10_count_0 : decode cX10_count 0 = .ok (.iload_n 1, 1) := by decide +kernel
theorem dX10_count_1 : decode cX10_count 1 = .ok (.tableswitch 110 0 5 #[39, 44, 44, 44, 50, 90], 39) := by decide +kernel
theorem dX10_count_40 : decode cX10_count 40 = .ok (.aload_n 0, 1) := by decide +kernel
theorem dX10_count_41 : decode cX10_count 41 = .ok (.invokevirtual 321, 3) := by decide +kernel
theorem dX10_count_44 : decode cX10_count 44 = .ok (.ireturn, 1) := by decide +kernel
theorem dX10_count_45 : decode cX10_count 45 = .ok (.aload_n 0, 1) := by decide +kernel
theorem dX10_count_46 : decode cX10_count 46 = .ok (.iload_n 1, 1) := by decide +kernel
theorem dX10_count_47 : decode cX10_count 47 = .ok (.invokevirtual 324, 3) := by decide +kernel
theorem dX10_count_50 : decode cX10_count 50 = .ok (.ireturn, 1) := by decide +kernel
theorem dX10_count_51 : decode cX10_count 51 = .ok (.aload_n 0, 1) := by decide +kernel
theorem dX10_count_52 : decode cX10_count 52 = .ok (.getfield 55, 3) := by decide +kernel
theorem dX10_count_55 : decode cX10_count 55 = .ok (.iconst 0, 1) := by decide +kernel
theorem dX10_count_56 : decode cX10_count 56 = .ok (.baload, 1) := by decide +kernel
theorem dX10_count_57 : decode cX10_count 57 = .ok (.invokestatic 200, 3) := by decide +kernel
theorem dX10_count_60 : decode cX10_count 60 = .ok (.aload_n 0, 1) := by decide +kernel
theorem dX10_count_61 : decode cX10_count 61 = .ok (.getfield 55, 3) := by decide +kernel
theorem dX10_count_64 : decode cX10_count 64 = .ok (.iconst 1, 1) := by decide +kernel
theorem dX10_count_65 : decode cX10_count 65 = .ok (.baload, 1) := by decide +kernel
theorem dX10_count_66 : decode cX10_count 66 = .ok (.invokestatic 200, 3) := by decide +kernel
theorem dX10_count_69 : decode cX10_count 69 = .ok (.iadd, 1) := by decide +kernel
theorem dX10_count_70 : decode cX10_count 70 = .ok (.aload_n 0, 1) := by decide +kernel
theorem dX10_count_71 : decode cX10_count 71 = .ok (.getfield 55, 3) := by decide +kernel
theorem dX10_count_74 : decode cX10_count 74 = .ok (.iconst 2, 1) := by decide +kernel
theorem dX10_count_75 : decode cX10_count 75 = .ok (.baload, 1) := by decide +kernel
theorem dX10_count_76 : decode cX10_count 76 = .ok (.invokestatic 200, 3) := by decide +kernel
theorem dX10_count_79 : decode cX10_count 79 = .ok (.iadd, 1) := by decide +kernel
theorem dX10_count_80 : decode cX10_count 80 = .ok (.aload_n 0, 1) := by decide +kernel
theorem dX10_count_81 : decode cX10_count 81 = .ok (.getfield 55, 3) := by decide +kernel
theorem dX10_count_84 : decode cX10_count 84 = .ok (.iconst 3, 1) := by decide +kernel
theorem dX10_count_85 : decode cX10_count 85 = .ok (.baload, 1) := by decide +kernel
theorem dX10_count_86 : decode cX10_count 86 = .ok (.invokestatic 200, 3) := by decide +kernel
theorem dX10_count_89 : decode cX10_count 89 = .ok (.iadd, 1) := by decide +kernel
theorem dX10_count_90 : decode cX10_count 90 = .ok (.ireturn, 1) := by decide +kernel
theorem dX10_count_91 : decode cX10_count 91 = .ok (.aload_n 0, 1) := by decide +kernel
theorem dX10_count_92 : decode cX10_count 92 = .ok (.getfield 64, 3) := by decide +kernel
theorem dX10_count_95 : decode cX10_count 95 = .ok (.iconst 0, 1) := by decide +kernel
theorem dX10_count_96 : decode cX10_count 96 = .ok (.baload, 1) := by decide +kernel
theorem dX10_count_97 : decode cX10_count 97 = .ok (.invokestatic 200, 3) := by decide +kernel
theorem dX10_count_100 : decode cX10_count 100 = .ok (.aload_n 0, 1) := by decide +kernel
theorem dX10_count_101 : decode cX10_count 101 = .ok (.getfield 64, 3) := by decide +kernel
theorem dX10_count_104 : decode cX10_count 104 = .ok (.iconst 1, 1) := by decide +kernel
theorem dX10_count_105 : decode cX10_count 105 = .ok (.baload, 1) := by decide +kernel
theorem dX10_count_106 : decode cX10_count 106 = .ok (.invokestatic 200, 3) := by decide +kernel
theorem dX10_count_109 : decode cX10_count 109 = .ok (.iadd, 1) := by decide +kernel
theorem dX10_count_110 : decode cX10_count 110 = .ok (.ireturn, 1) := by decide +kernel
theorem dX10_count_111 : decode cX10_count 111 = .ok (.iconst (-1), 1) := by decide +kernel
theorem dX10_count_112 : decode cX10_count 112 = .ok (.ireturn, 1) := by decide +kernel

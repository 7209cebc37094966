theorem dX0_init_0 : decode cX0_init 0 = .ok (.aload_n 0, 1) := by decide +kernel
theorem dX0_init_1 : decode cX0_init 1 = .ok (.invokespecial 3, 3) := by decide +kernel
theorem dX0_init_4 : decode cX0_init 4 = .ok (.aload_n 0, 1) := by decide +kernel
theorem dX0_init_5 : decode cX0_init 5 = .ok (.bipush 20, 2) := by decide +kernel
theorem dX0_init_7 : decode cX0_init 7 = .ok (.newarray .int, 2) := by decide +kernel
theorem dX0_init_9 : decode cX0_init 9 = .ok (.putfield 9, 3) := by decide +kernel
theorem dX0_init_12 : decode cX0_init 12 = .ok (.aload_n 0, 1) := by decide +kernel
theorem dX0_init_13 : decode cX0_init 13 = .ok (.bipush 20, 2) := by decide +kernel
theorem dX0_init_15 : decode cX0_init 15 = .ok (.newarray .int, 2) := by decide +kernel
theorem dX0_init_17 : decode cX0_init 17 = .ok (.putfield 15, 3) := by decide +kernel
theorem dX0_init_20 : decode cX0_init 20 = .ok (.aload_n 0, 1) := by decide +kernel
theorem dX0_init_21 : decode cX0_init 21 = .ok (.bipush 20, 2) := by decide +kernel
theorem dX0_init_23 : decode cX0_init 23 = .ok (.bipush 20, 2) := by decide +kernel
theorem dX0_init_25 : decode cX0_init 25 = .ok (.multianewarray 18 2, 4) := by decide +kernel
theorem dX0_init_29 : decode cX0_init 29 = .ok (.putfield 20, 3) := by decide +kernel
theorem dX0_init_32 : decode cX0_init 32 = .ok (.aload_n 0, 1) := by decide +kernel
theorem dX0_init_33 : decode cX0_init 33 = .ok (.bipush 21, 2) := by decide +kernel
theorem dX0_init_35 : decode cX0_init 35 = .ok (.bipush 21, 2) := by decide +kernel
theorem dX0_init_37 : decode cX0_init 37 = .ok (.multianewarray 18 2, 4) := by decide +kernel
theorem dX0_init_41 : decode cX0_init 41 = .ok (.putfield 23, 3) := by decide +kernel
theorem dX0_init_44 : decode cX0_init 44 = .ok (.return_, 1) := by decide +kernel
theorem dX0_costOf_0 : decode cX0_costOf 0 = .ok (.iload_n 0, 1) := by decide +kernel
theorem dX0_costOf_1 : decode cX0_costOf 1 = .ok (.tableswitch 43 0 3 #[31, 33, 35, 39], 31) := by decide +kernel
theorem dX0_costOf_32 : decode cX0_costOf 32 = .ok (.iconst 0, 1) := by decide +kernel
theorem dX0_costOf_33 : decode cX0_costOf 33 = .ok (.ireturn, 1) := by decide +kernel
theorem dX0_costOf_34 : decode cX0_costOf 34 = .ok (.iconst 1, 1) := by decide +kernel
theorem dX0_costOf_35 : decode cX0_costOf 35 = .ok (.ireturn, 1) := by decide +kernel
theorem dX0_costOf_36 : decode cX0_costOf 36 = .ok (.aload_n 1, 1) := by decide +kernel
theorem dX0_costOf_37 : decode cX0_costOf 37 = .ok (.iconst 1, 1) := by decide +kernel
theorem dX0_costOf_38 : decode cX0_costOf 38 = .ok (.iaload, 1) := by decide +kernel
theorem dX0_costOf_39 : decode cX0_costOf 39 = .ok (.ireturn, 1) := by decide +kernel
theorem dX0_costOf_40 : decode cX0_costOf 40 = .ok (.aload_n 1, 1) := by decide +kernel
theorem dX0_costOf_41 : decode cX0_costOf 41 = .ok (.iconst 2, 1) := by decide +kernel
theorem dX0_costOf_42 : decode cX0_costOf 42 = .ok (.iaload, 1) := by decide +kernel
theorem dX0_costOf_43 : decode cX0_costOf 43 = .ok (.ireturn, 1) := by decide +kernel
theorem dX0_costOf_44 : decode cX0_costOf 44 = .ok (.aload_n 1, 1) := by decide +kernel
theorem dX0_costOf_45 : decode cX0_costOf 45 = .ok (.iconst 3, 1) := by decide +kernel
theorem dX0_costOf_46 : decode cX0_costOf 46 = .ok (.iaload, 1) := by decide +kernel
theorem dX0_costOf_47 : decode cX0_costOf 47 = .ok (.ireturn, 1) := by decide +kernel
theorem dX0_judgeAlone_0 : decode cX0_judgeAlone 0 = .ok (.iconst 0, 1) := by decide +kernel
theorem dX0_judgeAlone_1 : decode cX0_judgeAlone 1 = .ok (.istore_n 2, 1) := by decide +kernel
theorem dX0_judgeAlone_2 : decode cX0_judgeAlone 2 = .ok (.iload_n 2, 1) := by decide +kernel
theorem dX0_judgeAlone_3 : decode cX0_judgeAlone 3 = .ok (.aload_n 0, 1) := by decide +kernel
theorem dX0_judgeAlone_4 : decode cX0_judgeAlone 4 = .ok (.getfield 26, 3) := by decide +kernel
theorem dX0_judgeAlone_7 : decode cX0_judgeAlone 7 = .ok (.if_icmp .ge 25, 3) := by decide +kernel
theorem dX0_judgeAlone_10 : decode cX0_judgeAlone 10 = .ok (.aload_n 1, 1) := by decide +kernel
theorem dX0_judgeAlone_11 : decode cX0_judgeAlone 11 = .ok (.iload_n 2, 1) := by decide +kernel
theorem dX0_judgeAlone_12 : decode cX0_judgeAlone 12 = .ok (.aload_n 0, 1) := by decide +kernel
theorem dX0_judgeAlone_13 : decode cX0_judgeAlone 13 = .ok (.iload_n 2, 1) := by decide +kernel
theorem dX0_judgeAlone_14 : decode cX0_judgeAlone 14 = .ok (.invokevirtual 32, 3) := by decide +kernel
theorem dX0_judgeAlone_17 : decode cX0_judgeAlone 17 = .ok (.ifCond .eq 7, 3) := by decide +kernel
theorem dX0_judgeAlone_20 : decode cX0_judgeAlone 20 = .ok (.iconst 4, 1) := by decide +kernel
theorem dX0_judgeAlone_21 : decode cX0_judgeAlone 21 = .ok (.goto 4, 3) := by decide +kernel
theorem dX0_judgeAlone_24 : decode cX0_judgeAlone 24 = .ok (.iconst 3, 1) := by decide +kernel
theorem dX0_judgeAlone_25 : decode cX0_judgeAlone 25 = .ok (.iastore, 1) := by decide +kernel
theorem dX0_judgeAlone_26 : decode cX0_judgeAlone 26 = .ok (.iinc 2 1, 3) := by decide +kernel
theorem dX0_judgeAlone_29 : decode cX0_judgeAlone 29 = .ok (.goto (-27), 3) := by decide +kernel
theorem dX0_judgeAlone_32 : decode cX0_judgeAlone 32 = .ok (.return_, 1) := by decide +kernel
theorem dX0_leastCost_0 : decode cX0_leastCost 0 = .ok (.aload_n 1, 1) := by decide +kernel
theorem dX0_leastCost_1 : decode cX0_leastCost 1 = .ok (.aload_n 0, 1) := by decide +kernel
theorem dX0_leastCost_2 : decode cX0_leastCost 2 = .ok (.getfield 9, 3) := by decide +kernel
theorem dX0_leastCost_5 : decode cX0_leastCost 5 = .ok (.invokestatic 36, 3) := by decide +kernel
theorem dX0_leastCost_8 : decode cX0_leastCost 8 = .ok (.aload_n 2, 1) := by decide +kernel
theorem dX0_leastCost_9 : decode cX0_leastCost 9 = .ok (.aload_n 0, 1) := by decide +kernel
theorem dX0_leastCost_10 : decode cX0_leastCost 10 = .ok (.getfield 15, 3) := by decide +kernel
theorem dX0_leastCost_13 : decode cX0_leastCost 13 = .ok (.invokestatic 36, 3) := by decide +kernel
theorem dX0_leastCost_16 : decode cX0_leastCost 16 = .ok (.aload_n 1, 1) := by decide +kernel
theorem dX0_leastCost_17 : decode cX0_leastCost 17 = .ok (.getfield 26, 3) := by decide +kernel
theorem dX0_leastCost_20 : decode cX0_leastCost 20 = .ok (.istore 4, 2) := by decide +kernel
theorem dX0_leastCost_22 : decode cX0_leastCost 22 = .ok (.aload_n 2, 1) := by decide +kernel
theorem dX0_leastCost_23 : decode cX0_leastCost 23 = .ok (.getfield 26, 3) := by decide +kernel
theorem dX0_leastCost_26 : decode cX0_leastCost 26 = .ok (.istore 5, 2) := by decide +kernel
theorem dX0_leastCost_28 : decode cX0_leastCost 28 = .ok (.aload_n 0, 1) := by decide +kernel
theorem dX0_leastCost_29 : decode cX0_leastCost 29 = .ok (.getfield 23, 3) := by decide +kernel
theorem dX0_leastCost_32 : decode cX0_leastCost 32 = .ok (.iload 4, 2) := by decide +kernel
theorem dX0_leastCost_34 : decode cX0_leastCost 34 = .ok (.aaload, 1) := by decide +kernel
theorem dX0_leastCost_35 : decode cX0_leastCost 35 = .ok (.iload 5, 2) := by decide +kernel
theorem dX0_leastCost_37 : decode cX0_leastCost 37 = .ok (.iconst 0, 1) := by decide +kernel
theorem dX0_leastCost_38 : decode cX0_leastCost 38 = .ok (.iastore, 1) := by decide +kernel
theorem dX0_leastCost_39 : decode cX0_leastCost 39 = .ok (.iload 4, 2) := by decide +kernel
theorem dX0_leastCost_41 : decode cX0_leastCost 41 = .ok (.iconst 1, 1) := by decide +kernel
theorem dX0_leastCost_42 : decode cX0_leastCost 42 = .ok (.isub, 1) := by decide +kernel
theorem dX0_leastCost_43 : decode cX0_leastCost 43 = .ok (.istore 6, 2) := by decide +kernel
theorem dX0_leastCost_45 : decode cX0_leastCost 45 = .ok (.iload 6, 2) := by decide +kernel
theorem dX0_leastCost_47 : decode cX0_leastCost 47 = .ok (.ifCond .lt 28, 3) := by decide +kernel
theorem dX0_leastCost_50 : decode cX0_leastCost 50 = .ok (.aload_n 0, 1) := by decide +kernel
theorem dX0_leastCost_51 : decode cX0_leastCost 51 = .ok (.getfield 23, 3) := by decide +kernel
theorem dX0_leastCost_54 : decode cX0_leastCost 54 = .ok (.iload 6, 2) := by decide +kernel
theorem dX0_leastCost_56 : decode cX0_leastCost 56 = .ok (.aaload, 1) := by decide +kernel
theorem dX0_leastCost_57 : decode cX0_leastCost 57 = .ok (.iload 5, 2) := by decide +kernel
theorem dX0_leastCost_59 : decode cX0_leastCost 59 = .ok (.aload_n 0, 1) := by decide +kernel
theorem dX0_leastCost_60 : decode cX0_leastCost 60 = .ok (.iload 6, 2) := by decide +kernel
theorem dX0_leastCost_62 : decode cX0_leastCost 62 = .ok (.iload 5, 2) := by decide +kernel
theorem dX0_leastCost_64 : decode cX0_leastCost 64 = .ok (.aload_n 3, 1) := by decide +kernel
theorem dX0_leastCost_65 : decode cX0_leastCost 65 = .ok (.invokevirtual 40, 3) := by decide +kernel
theorem dX0_leastCost_68 : decode cX0_leastCost 68 = .ok (.iastore, 1) := by decide +kernel
theorem dX0_leastCost_69 : decode cX0_leastCost 69 = .ok (.iinc 6 (-1), 3) := by decide +kernel
theorem dX0_leastCost_72 : decode cX0_leastCost 72 = .ok (.goto (-27), 3) := by decide +kernel
theorem dX0_leastCost_75 : decode cX0_leastCost 75 = .ok (.iload 5, 2) := by decide +kernel
theorem dX0_leastCost_77 : decode cX0_leastCost 77 = .ok (.iconst 1, 1) := by decide +kernel
theorem dX0_leastCost_78 : decode cX0_leastCost 78 = .ok (.isub, 1) := by decide +kernel
theorem dX0_leastCost_79 : decode cX0_leastCost 79 = .ok (.istore 6, 2) := by decide +kernel
theorem dX0_leastCost_81 : decode cX0_leastCost 81 = .ok (.iload 6, 2) := by decide +kernel
theorem dX0_leastCost_83 : decode cX0_leastCost 83 = .ok (.ifCond .lt 28, 3) := by decide +kernel
theorem dX0_leastCost_86 : decode cX0_leastCost 86 = .ok (.aload_n 0, 1) := by decide +kernel
theorem dX0_leastCost_87 : decode cX0_leastCost 87 = .ok (.getfield 23, 3) := by decide +kernel
theorem dX0_leastCost_90 : decode cX0_leastCost 90 = .ok (.iload 4, 2) := by decide +kernel
theorem dX0_leastCost_92 : decode cX0_leastCost 92 = .ok (.aaload, 1) := by decide +kernel
theorem dX0_leastCost_93 : decode cX0_leastCost 93 = .ok (.iload 6, 2) := by decide +kernel
theorem dX0_leastCost_95 : decode cX0_leastCost 95 = .ok (.aload_n 0, 1) := by decide +kernel
theorem dX0_leastCost_96 : decode cX0_leastCost 96 = .ok (.iload 4, 2) := by decide +kernel
theorem dX0_leastCost_98 : decode cX0_leastCost 98 = .ok (.iload 6, 2) := by decide +kernel
theorem dX0_leastCost_100 : decode cX0_leastCost 100 = .ok (.aload_n 3, 1) := by decide +kernel
theorem dX0_leastCost_101 : decode cX0_leastCost 101 = .ok (.invokevirtual 44, 3) := by decide +kernel
theorem dX0_leastCost_104 : decode cX0_leastCost 104 = .ok (.iastore, 1) := by decide +kernel
theorem dX0_leastCost_105 : decode cX0_leastCost 105 = .ok (.iinc 6 (-1), 3) := by decide +kernel
theorem dX0_leastCost_108 : decode cX0_leastCost 108 = .ok (.goto (-27), 3) := by decide +kernel
theorem dX0_leastCost_111 : decode cX0_leastCost 111 = .ok (.iload 4, 2) := by decide +kernel
theorem dX0_leastCost_113 : decode cX0_leastCost 113 = .ok (.iconst 1, 1) := by decide +kernel
theorem dX0_leastCost_114 : decode cX0_leastCost 114 = .ok (.isub, 1) := by decide +kernel
theorem dX0_leastCost_115 : decode cX0_leastCost 115 = .ok (.istore 6, 2) := by decide +kernel
theorem dX0_leastCost_117 : decode cX0_leastCost 117 = .ok (.iload 6, 2) := by decide +kernel
theorem dX0_leastCost_119 : decode cX0_leastCost 119 = .ok (.ifCond .lt 95, 3) := by decide +kernel
theorem dX0_leastCost_122 : decode cX0_leastCost 122 = .ok (.iload 5, 2) := by decide +kernel
theorem dX0_leastCost_124 : decode cX0_leastCost 124 = .ok (.iconst 1, 1) := by decide +kernel
theorem dX0_leastCost_125 : decode cX0_leastCost 125 = .ok (.isub, 1) := by decide +kernel
theorem dX0_leastCost_126 : decode cX0_leastCost 126 = .ok (.istore 7, 2) := by decide +kernel
theorem dX0_leastCost_128 : decode cX0_leastCost 128 = .ok (.iload 7, 2) := by decide +kernel
theorem dX0_leastCost_130 : decode cX0_leastCost 130 = .ok (.ifCond .lt 78, 3) := by decide +kernel
theorem dX0_leastCost_133 : decode cX0_leastCost 133 = .ok (.aload_n 0, 1) := by decide +kernel
theorem dX0_leastCost_134 : decode cX0_leastCost 134 = .ok (.getfield 20, 3) := by decide +kernel
theorem dX0_leastCost_137 : decode cX0_leastCost 137 = .ok (.iload 6, 2) := by decide +kernel
theorem dX0_leastCost_139 : decode cX0_leastCost 139 = .ok (.aaload, 1) := by decide +kernel
theorem dX0_leastCost_140 : decode cX0_leastCost 140 = .ok (.iload 7, 2) := by decide +kernel
theorem dX0_leastCost_142 : decode cX0_leastCost 142 = .ok (.aload_n 1, 1) := by decide +kernel
theorem dX0_leastCost_143 : decode cX0_leastCost 143 = .ok (.iload 6, 2) := by decide +kernel
theorem dX0_leastCost_145 : decode cX0_leastCost 145 = .ok (.aload_n 2, 1) := by decide +kernel
theorem dX0_leastCost_146 : decode cX0_leastCost 146 = .ok (.iload 7, 2) := by decide +kernel
theorem dX0_leastCost_148 : decode cX0_leastCost 148 = .ok (.aload_n 3, 1) := by decide +kernel
theorem dX0_leastCost_149 : decode cX0_leastCost 149 = .ok (.iconst 0, 1) := by decide +kernel
theorem dX0_leastCost_150 : decode cX0_leastCost 150 = .ok (.iaload, 1) := by decide +kernel
theorem dX0_leastCost_151 : decode cX0_leastCost 151 = .ok (.invokestatic 47, 3) := by decide +kernel
theorem dX0_leastCost_154 : decode cX0_leastCost 154 = .ok (.iastore, 1) := by decide +kernel
theorem dX0_leastCost_155 : decode cX0_leastCost 155 = .ok (.aload_n 0, 1) := by decide +kernel
theorem dX0_leastCost_156 : decode cX0_leastCost 156 = .ok (.iload 6, 2) := by decide +kernel
theorem dX0_leastCost_158 : decode cX0_leastCost 158 = .ok (.iload 7, 2) := by decide +kernel
theorem dX0_leastCost_160 : decode cX0_leastCost 160 = .ok (.aload_n 3, 1) := by decide +kernel
theorem dX0_leastCost_161 : decode cX0_leastCost 161 = .ok (.invokevirtual 40, 3) := by decide +kernel
theorem dX0_leastCost_164 : decode cX0_leastCost 164 = .ok (.aload_n 0, 1) := by decide +kernel
theorem dX0_leastCost_165 : decode cX0_leastCost 165 = .ok (.iload 6, 2) := by decide +kernel
theorem dX0_leastCost_167 : decode cX0_leastCost 167 = .ok (.iload 7, 2) := by decide +kernel
theorem dX0_leastCost_169 : decode cX0_leastCost 169 = .ok (.aload_n 3, 1) := by decide +kernel
theorem dX0_leastCost_170 : decode cX0_leastCost 170 = .ok (.invokevirtual 44, 3) := by decide +kernel
theorem dX0_leastCost_173 : decode cX0_leastCost 173 = .ok (.invokestatic 53, 3) := by decide +kernel
theorem dX0_leastCost_176 : decode cX0_leastCost 176 = .ok (.istore 8, 2) := by decide +kernel
theorem dX0_leastCost_178 : decode cX0_leastCost 178 = .ok (.aload_n 0, 1) := by decide +kernel
theorem dX0_leastCost_179 : decode cX0_leastCost 179 = .ok (.getfield 23, 3) := by decide +kernel
theorem dX0_leastCost_182 : decode cX0_leastCost 182 = .ok (.iload 6, 2) := by decide +kernel
theorem dX0_leastCost_184 : decode cX0_leastCost 184 = .ok (.aaload, 1) := by decide +kernel
theorem dX0_leastCost_185 : decode cX0_leastCost 185 = .ok (.iload 7, 2) := by decide +kernel
theorem dX0_leastCost_187 : decode cX0_leastCost 187 = .ok (.aload_n 0, 1) := by decide +kernel
theorem dX0_leastCost_188 : decode cX0_leastCost 188 = .ok (.iload 6, 2) := by decide +kernel
theorem dX0_leastCost_190 : decode cX0_leastCost 190 = .ok (.iload 7, 2) := by decide +kernel
theorem dX0_leastCost_192 : decode cX0_leastCost 192 = .ok (.aload_n 3, 1) := by decide +kernel
theorem dX0_leastCost_193 : decode cX0_leastCost 193 = .ok (.invokevirtual 59, 3) := by decide +kernel
theorem dX0_leastCost_196 : decode cX0_leastCost 196 = .ok (.iload 8, 2) := by decide +kernel
theorem dX0_leastCost_198 : decode cX0_leastCost 198 = .ok (.invokestatic 53, 3) := by decide +kernel
theorem dX0_leastCost_201 : decode cX0_leastCost 201 = .ok (.iastore, 1) := by decide +kernel
theorem dX0_leastCost_202 : decode cX0_leastCost 202 = .ok (.iinc 7 (-1), 3) := by decide +kernel
theorem dX0_leastCost_205 : decode cX0_leastCost 205 = .ok (.goto (-77), 3) := by decide +kernel
theorem dX0_leastCost_208 : decode cX0_leastCost 208 = .ok (.iinc 6 (-1), 3) := by decide +kernel
theorem dX0_leastCost_211 : decode cX0_leastCost 211 = .ok (.goto (-94), 3) := by decide +kernel
theorem dX0_leastCost_214 : decode cX0_leastCost 214 = .ok (.aload_n 0, 1) := by decide +kernel
theorem dX0_leastCost_215 : decode cX0_leastCost 215 = .ok (.getfield 23, 3) := by decide +kernel
theorem dX0_leastCost_218 : decode cX0_leastCost 218 = .ok (.iconst 0, 1) := by decide +kernel
theorem dX0_leastCost_219 : decode cX0_leastCost 219 = .ok (.aaload, 1) := by decide +kernel
theorem dX0_leastCost_220 : decode cX0_leastCost 220 = .ok (.iconst 0, 1) := by decide +kernel
theorem dX0_leastCost_221 : decode cX0_leastCost 221 = .ok (.iaload, 1) := by decide +kernel
theorem dX0_leastCost_222 : decode cX0_leastCost 222 = .ok (.ireturn, 1) := by decide +kernel
theorem dX0_pairCost_0 : decode cX0_pairCost 0 = .ok (.aload_n 0, 1) := by decide +kernel
theorem dX0_pairCost_1 : decode cX0_pairCost 1 = .ok (.getfield 20, 3) := by decide +kernel
theorem dX0_pairCost_4 : decode cX0_pairCost 4 = .ok (.iload_n 1, 1) := by decide +kernel
theorem dX0_pairCost_5 : decode cX0_pairCost 5 = .ok (.aaload, 1) := by decide +kernel
theorem dX0_pairCost_6 : decode cX0_pairCost 6 = .ok (.iload_n 2, 1) := by decide +kernel
theorem dX0_pairCost_7 : decode cX0_pairCost 7 = .ok (.iaload, 1) := by decide +kernel
theorem dX0_pairCost_8 : decode cX0_pairCost 8 = .ok (.aload_n 3, 1) := by decide +kernel
theorem dX0_pairCost_9 : decode cX0_pairCost 9 = .ok (.invokestatic 62, 3) := by decide +kernel
theorem dX0_pairCost_12 : decode cX0_pairCost 12 = .ok (.aload_n 0, 1) := by decide +kernel
theorem dX0_pairCost_13 : decode cX0_pairCost 13 = .ok (.getfield 23, 3) := by decide +kernel
theorem dX0_pairCost_16 : decode cX0_pairCost 16 = .ok (.iload_n 1, 1) := by decide +kernel
theorem dX0_pairCost_17 : decode cX0_pairCost 17 = .ok (.iconst 1, 1) := by decide +kernel
theorem dX0_pairCost_18 : decode cX0_pairCost 18 = .ok (.iadd, 1) := by decide +kernel
theorem dX0_pairCost_19 : decode cX0_pairCost 19 = .ok (.aaload, 1) := by decide +kernel
theorem dX0_pairCost_20 : decode cX0_pairCost 20 = .ok (.iload_n 2, 1) := by decide +kernel
theorem dX0_pairCost_21 : decode cX0_pairCost 21 = .ok (.iconst 1, 1) := by decide +kernel
theorem dX0_pairCost_22 : decode cX0_pairCost 22 = .ok (.iadd, 1) := by decide +kernel
theorem dX0_pairCost_23 : decode cX0_pairCost 23 = .ok (.iaload, 1) := by decide +kernel
theorem dX0_pairCost_24 : decode cX0_pairCost 24 = .ok (.iadd, 1) := by decide +kernel
theorem dX0_pairCost_25 : decode cX0_pairCost 25 = .ok (.ireturn, 1) := by decide +kernel
theorem dX0_leftCost_0 : decode cX0_leftCost 0 = .ok (.aload_n 0, 1) := by decide +kernel
theorem dX0_leftCost_1 : decode cX0_leftCost 1 = .ok (.getfield 9, 3) := by decide +kernel
theorem dX0_leftCost_4 : decode cX0_leftCost 4 = .ok (.iload_n 1, 1) := by decide +kernel
theorem dX0_leftCost_5 : decode cX0_leftCost 5 = .ok (.iaload, 1) := by decide +kernel
theorem dX0_leftCost_6 : decode cX0_leftCost 6 = .ok (.aload_n 3, 1) := by decide +kernel
theorem dX0_leftCost_7 : decode cX0_leftCost 7 = .ok (.invokestatic 62, 3) := by decide +kernel
theorem dX0_leftCost_10 : decode cX0_leftCost 10 = .ok (.aload_n 0, 1) := by decide +kernel
theorem dX0_leftCost_11 : decode cX0_leftCost 11 = .ok (.getfield 23, 3) := by decide +kernel
theorem dX0_leftCost_14 : decode cX0_leftCost 14 = .ok (.iload_n 1, 1) := by decide +kernel
theorem dX0_leftCost_15 : decode cX0_leftCost 15 = .ok (.iconst 1, 1) := by decide +kernel
theorem dX0_leftCost_16 : decode cX0_leftCost 16 = .ok (.iadd, 1) := by decide +kernel
theorem dX0_leftCost_17 : decode cX0_leftCost 17 = .ok (.aaload, 1) := by decide +kernel
theorem dX0_leftCost_18 : decode cX0_leftCost 18 = .ok (.iload_n 2, 1) := by decide +kernel
theorem dX0_leftCost_19 : decode cX0_leftCost 19 = .ok (.iaload, 1) := by decide +kernel
theorem dX0_leftCost_20 : decode cX0_leftCost 20 = .ok (.iadd, 1) := by decide +kernel
theorem dX0_leftCost_21 : decode cX0_leftCost 21 = .ok (.ireturn, 1) := by decide +kernel
theorem dX0_rightCost_0 : decode cX0_rightCost 0 = .ok (.aload_n 0, 1) := by decide +kernel
theorem dX0_rightCost_1 : decode cX0_rightCost 1 = .ok (.getfield 15, 3) := by decide +kernel
theorem dX0_rightCost_4 : decode cX0_rightCost 4 = .ok (.iload_n 2, 1) := by decide +kernel
theorem dX0_rightCost_5 : decode cX0_rightCost 5 = .ok (.iaload, 1) := by decide +kernel
theorem dX0_rightCost_6 : decode cX0_rightCost 6 = .ok (.aload_n 3, 1) := by decide +kernel
theorem dX0_rightCost_7 : decode cX0_rightCost 7 = .ok (.invokestatic 62, 3) := by decide +kernel
theorem dX0_rightCost_10 : decode cX0_rightCost 10 = .ok (.aload_n 0, 1) := by decide +kernel
theorem dX0_rightCost_11 : decode cX0_rightCost 11 = .ok (.getfield 23, 3) := by decide +kernel
theorem dX0_rightCost_14 : decode cX0_rightCost 14 = .ok (.iload_n 1, 1) := by decide +kernel
theorem dX0_rightCost_15 : decode cX0_rightCost 15 = .ok (.aaload, 1) := by decide +kernel
theorem dX0_rightCost_16 : decode cX0_rightCost 16 = .ok (.iload_n 2, 1) := by decide +kernel
theorem dX0_rightCost_17 : decode cX0_rightCost 17 = .ok (.iconst 1, 1) := by decide +kernel
theorem dX0_rightCost_18 : decode cX0_rightCost 18 = .ok (.iadd, 1) := by decide +kernel
theorem dX0_rightCost_19 : decode cX0_rightCost 19 = .ok (.iaload, 1) := by decide +kernel
theorem dX0_rightCost_20 : decode cX0_rightCost 20 = .ok (.iadd, 1) := by decide +kernel
theorem dX0_rightCost_21 : decode cX0_rightCost 21 = .ok (.ireturn, 1) := by decide +kernel
theorem dX0_traceSteps_0 : decode cX0_traceSteps 0 = .ok (.aload_n 1, 1) := by decide +kernel
theorem dX0_traceSteps_1 : decode cX0_traceSteps 1 = .ok (.getfield 66, 3) := by decide +kernel
theorem dX0_traceSteps_4 : decode cX0_traceSteps 4 = .ok (.getfield 26, 3) := by decide +kernel
theorem dX0_traceSteps_7 : decode cX0_traceSteps 7 = .ok (.istore_n 3, 1) := by decide +kernel
theorem dX0_traceSteps_8 : decode cX0_traceSteps 8 = .ok (.aload_n 1, 1) := by decide +kernel
theorem dX0_traceSteps_9 : decode cX0_traceSteps 9 = .ok (.getfield 72, 3) := by decide +kernel
theorem dX0_traceSteps_12 : decode cX0_traceSteps 12 = .ok (.getfield 26, 3) := by decide +kernel
theorem dX0_traceSteps_15 : decode cX0_traceSteps 15 = .ok (.istore 4, 2) := by decide +kernel
theorem dX0_traceSteps_17 : decode cX0_traceSteps 17 = .ok (.iconst 0, 1) := by decide +kernel
theorem dX0_traceSteps_18 : decode cX0_traceSteps 18 = .ok (.istore 5, 2) := by decide +kernel
theorem dX0_traceSteps_20 : decode cX0_traceSteps 20 = .ok (.iconst 0, 1) := by decide +kernel
theorem dX0_traceSteps_21 : decode cX0_traceSteps 21 = .ok (.istore 6, 2) := by decide +kernel
theorem dX0_traceSteps_23 : decode cX0_traceSteps 23 = .ok (.iconst 0, 1) := by decide +kernel
theorem dX0_traceSteps_24 : decode cX0_traceSteps 24 = .ok (.istore 7, 2) := by decide +kernel
theorem dX0_traceSteps_26 : decode cX0_traceSteps 26 = .ok (.iload 7, 2) := by decide +kernel
theorem dX0_traceSteps_28 : decode cX0_traceSteps 28 = .ok (.iload_n 3, 1) := by decide +kernel
theorem dX0_traceSteps_29 : decode cX0_traceSteps 29 = .ok (.iload 4, 2) := by decide +kernel
theorem dX0_traceSteps_31 : decode cX0_traceSteps 31 = .ok (.iadd, 1) := by decide +kernel
theorem dX0_traceSteps_32 : decode cX0_traceSteps 32 = .ok (.if_icmp .ge 197, 3) := by decide +kernel
theorem dX0_traceSteps_35 : decode cX0_traceSteps 35 = .ok (.iload 5, 2) := by decide +kernel
theorem dX0_traceSteps_37 : decode cX0_traceSteps 37 = .ok (.iload_n 3, 1) := by decide +kernel
theorem dX0_traceSteps_38 : decode cX0_traceSteps 38 = .ok (.if_icmp .lt 10, 3) := by decide +kernel
theorem dX0_traceSteps_41 : decode cX0_traceSteps 41 = .ok (.iload 6, 2) := by decide +kernel
theorem dX0_traceSteps_43 : decode cX0_traceSteps 43 = .ok (.iload 4, 2) := by decide +kernel
theorem dX0_traceSteps_45 : decode cX0_traceSteps 45 = .ok (.if_icmp .ge 184, 3) := by decide +kernel
theorem dX0_traceSteps_48 : decode cX0_traceSteps 48 = .ok (.iload 5, 2) := by decide +kernel
theorem dX0_traceSteps_50 : decode cX0_traceSteps 50 = .ok (.iload_n 3, 1) := by decide +kernel
theorem dX0_traceSteps_51 : decode cX0_traceSteps 51 = .ok (.if_icmp .ge 74, 3) := by decide +kernel
theorem dX0_traceSteps_54 : decode cX0_traceSteps 54 = .ok (.iload 6, 2) := by decide +kernel
theorem dX0_traceSteps_56 : decode cX0_traceSteps 56 = .ok (.iload 4, 2) := by decide +kernel
theorem dX0_traceSteps_58 : decode cX0_traceSteps 58 = .ok (.if_icmp .ge 67, 3) := by decide +kernel
theorem dX0_traceSteps_61 : decode cX0_traceSteps 61 = .ok (.aload_n 0, 1) := by decide +kernel
theorem dX0_traceSteps_62 : decode cX0_traceSteps 62 = .ok (.getfield 23, 3) := by decide +kernel
theorem dX0_traceSteps_65 : decode cX0_traceSteps 65 = .ok (.iload 5, 2) := by decide +kernel
theorem dX0_traceSteps_67 : decode cX0_traceSteps 67 = .ok (.aaload, 1) := by decide +kernel
theorem dX0_traceSteps_68 : decode cX0_traceSteps 68 = .ok (.iload 6, 2) := by decide +kernel
theorem dX0_traceSteps_70 : decode cX0_traceSteps 70 = .ok (.iaload, 1) := by decide +kernel
theorem dX0_traceSteps_71 : decode cX0_traceSteps 71 = .ok (.aload_n 0, 1) := by decide +kernel
theorem dX0_traceSteps_72 : decode cX0_traceSteps 72 = .ok (.iload 5, 2) := by decide +kernel
theorem dX0_traceSteps_74 : decode cX0_traceSteps 74 = .ok (.iload 6, 2) := by decide +kernel
theorem dX0_traceSteps_76 : decode cX0_traceSteps 76 = .ok (.aload_n 2, 1) := by decide +kernel
theorem dX0_traceSteps_77 : decode cX0_traceSteps 77 = .ok (.invokevirtual 59, 3) := by decide +kernel
theorem dX0_traceSteps_80 : decode cX0_traceSteps 80 = .ok (.if_icmp .ne 45, 3) := by decide +kernel
theorem dX0_traceSteps_83 : decode cX0_traceSteps 83 = .ok (.aload_n 1, 1) := by decide +kernel
theorem dX0_traceSteps_84 : decode cX0_traceSteps 84 = .ok (.iconst 0, 1) := by decide +kernel
theorem dX0_traceSteps_85 : decode cX0_traceSteps 85 = .ok (.iload 5, 2) := by decide +kernel
theorem dX0_traceSteps_87 : decode cX0_traceSteps 87 = .ok (.iload 6, 2) := by decide +kernel
theorem dX0_traceSteps_89 : decode cX0_traceSteps 89 = .ok (.aload_n 0, 1) := by decide +kernel
theorem dX0_traceSteps_90 : decode cX0_traceSteps 90 = .ok (.getfield 20, 3) := by decide +kernel
theorem dX0_traceSteps_93 : decode cX0_traceSteps 93 = .ok (.iload 5, 2) := by decide +kernel
theorem dX0_traceSteps_95 : decode cX0_traceSteps 95 = .ok (.aaload, 1) := by decide +kernel
theorem dX0_traceSteps_96 : decode cX0_traceSteps 96 = .ok (.iload 6, 2) := by decide +kernel
theorem dX0_traceSteps_98 : decode cX0_traceSteps 98 = .ok (.iaload, 1) := by decide +kernel
theorem dX0_traceSteps_99 : decode cX0_traceSteps 99 = .ok (.aload_n 0, 1) := by decide +kernel
theorem dX0_traceSteps_100 : decode cX0_traceSteps 100 = .ok (.getfield 20, 3) := by decide +kernel
theorem dX0_traceSteps_103 : decode cX0_traceSteps 103 = .ok (.iload 5, 2) := by decide +kernel
theorem dX0_traceSteps_105 : decode cX0_traceSteps 105 = .ok (.aaload, 1) := by decide +kernel
theorem dX0_traceSteps_106 : decode cX0_traceSteps 106 = .ok (.iload 6, 2) := by decide +kernel
theorem dX0_traceSteps_108 : decode cX0_traceSteps 108 = .ok (.iaload, 1) := by decide +kernel
theorem dX0_traceSteps_109 : decode cX0_traceSteps 109 = .ok (.aload_n 2, 1) := by decide +kernel
theorem dX0_traceSteps_110 : decode cX0_traceSteps 110 = .ok (.invokestatic 62, 3) := by decide +kernel
theorem dX0_traceSteps_113 : decode cX0_traceSteps 113 = .ok (.invokevirtual 75, 3) := by decide +kernel
theorem dX0_traceSteps_116 : decode cX0_traceSteps 116 = .ok (.iinc 5 1, 3) := by decide +kernel
theorem dX0_traceSteps_119 : decode cX0_traceSteps 119 = .ok (.iinc 6 1, 3) := by decide +kernel
theorem dX0_traceSteps_122 : decode cX0_traceSteps 122 = .ok (.goto 101, 3) := by decide +kernel
theorem dX0_traceSteps_125 : decode cX0_traceSteps 125 = .ok (.iload 5, 2) := by decide +kernel
theorem dX0_traceSteps_127 : decode cX0_traceSteps 127 = .ok (.iload_n 3, 1) := by decide +kernel
theorem dX0_traceSteps_128 : decode cX0_traceSteps 128 = .ok (.if_icmp .ge 58, 3) := by decide +kernel
theorem dX0_traceSteps_131 : decode cX0_traceSteps 131 = .ok (.aload_n 0, 1) := by decide +kernel
theorem dX0_traceSteps_132 : decode cX0_traceSteps 132 = .ok (.getfield 23, 3) := by decide +kernel
theorem dX0_traceSteps_135 : decode cX0_traceSteps 135 = .ok (.iload 5, 2) := by decide +kernel
theorem dX0_traceSteps_137 : decode cX0_traceSteps 137 = .ok (.aaload, 1) := by decide +kernel
theorem dX0_traceSteps_138 : decode cX0_traceSteps 138 = .ok (.iload 6, 2) := by decide +kernel
theorem dX0_traceSteps_140 : decode cX0_traceSteps 140 = .ok (.iaload, 1) := by decide +kernel
theorem dX0_traceSteps_141 : decode cX0_traceSteps 141 = .ok (.aload_n 0, 1) := by decide +kernel
theorem dX0_traceSteps_142 : decode cX0_traceSteps 142 = .ok (.iload 5, 2) := by decide +kernel
theorem dX0_traceSteps_144 : decode cX0_traceSteps 144 = .ok (.iload 6, 2) := by decide +kernel
theorem dX0_traceSteps_146 : decode cX0_traceSteps 146 = .ok (.aload_n 2, 1) := by decide +kernel
theorem dX0_traceSteps_147 : decode cX0_traceSteps 147 = .ok (.invokevirtual 40, 3) := by decide +kernel
theorem dX0_traceSteps_150 : decode cX0_traceSteps 150 = .ok (.if_icmp .ne 36, 3) := by decide +kernel
theorem dX0_traceSteps_153 : decode cX0_traceSteps 153 = .ok (.aload_n 1, 1) := by decide +kernel
theorem dX0_traceSteps_154 : decode cX0_traceSteps 154 = .ok (.iconst 1, 1) := by decide +kernel
theorem dX0_traceSteps_155 : decode cX0_traceSteps 155 = .ok (.iload 5, 2) := by decide +kernel
theorem dX0_traceSteps_157 : decode cX0_traceSteps 157 = .ok (.iload 6, 2) := by decide +kernel
theorem dX0_traceSteps_159 : decode cX0_traceSteps 159 = .ok (.aload_n 0, 1) := by decide +kernel
theorem dX0_traceSteps_160 : decode cX0_traceSteps 160 = .ok (.getfield 9, 3) := by decide +kernel
theorem dX0_traceSteps_163 : decode cX0_traceSteps 163 = .ok (.iload 5, 2) := by decide +kernel
theorem dX0_traceSteps_165 : decode cX0_traceSteps 165 = .ok (.iaload, 1) := by decide +kernel
theorem dX0_traceSteps_166 : decode cX0_traceSteps 166 = .ok (.aload_n 0, 1) := by decide +kernel
theorem dX0_traceSteps_167 : decode cX0_traceSteps 167 = .ok (.getfield 9, 3) := by decide +kernel
theorem dX0_traceSteps_170 : decode cX0_traceSteps 170 = .ok (.iload 5, 2) := by decide +kernel
theorem dX0_traceSteps_172 : decode cX0_traceSteps 172 = .ok (.iaload, 1) := by decide +kernel
theorem dX0_traceSteps_173 : decode cX0_traceSteps 173 = .ok (.aload_n 2, 1) := by decide +kernel
theorem dX0_traceSteps_174 : decode cX0_traceSteps 174 = .ok (.invokestatic 62, 3) := by decide +kernel
theorem dX0_traceSteps_177 : decode cX0_traceSteps 177 = .ok (.invokevirtual 75, 3) := by decide +kernel
theorem dX0_traceSteps_180 : decode cX0_traceSteps 180 = .ok (.iinc 5 1, 3) := by decide +kernel
theorem dX0_traceSteps_183 : decode cX0_traceSteps 183 = .ok (.goto 40, 3) := by decide +kernel
theorem dX0_traceSteps_186 : decode cX0_traceSteps 186 = .ok (.iload 6, 2) := by decide +kernel
theorem dX0_traceSteps_188 : decode cX0_traceSteps 188 = .ok (.iload 4, 2) := by decide +kernel
theorem dX0_traceSteps_190 : decode cX0_traceSteps 190 = .ok (.if_icmp .ge 33, 3) := by decide +kernel
theorem dX0_traceSteps_193 : decode cX0_traceSteps 193 = .ok (.aload_n 1, 1) := by decide +kernel
theorem dX0_traceSteps_194 : decode cX0_traceSteps 194 = .ok (.iconst 2, 1) := by decide +kernel
theorem dX0_traceSteps_195 : decode cX0_traceSteps 195 = .ok (.iload 5, 2) := by decide +kernel
theorem dX0_traceSteps_197 : decode cX0_traceSteps 197 = .ok (.iload 6, 2) := by decide +kernel
theorem dX0_traceSteps_199 : decode cX0_traceSteps 199 = .ok (.aload_n 0, 1) := by decide +kernel
theorem dX0_traceSteps_200 : decode cX0_traceSteps 200 = .ok (.getfield 15, 3) := by decide +kernel
theorem dX0_traceSteps_203 : decode cX0_traceSteps 203 = .ok (.iload 6, 2) := by decide +kernel
theorem dX0_traceSteps_205 : decode cX0_traceSteps 205 = .ok (.iaload, 1) := by decide +kernel
theorem dX0_traceSteps_206 : decode cX0_traceSteps 206 = .ok (.aload_n 0, 1) := by decide +kernel
theorem dX0_traceSteps_207 : decode cX0_traceSteps 207 = .ok (.getfield 15, 3) := by decide +kernel
theorem dX0_traceSteps_210 : decode cX0_traceSteps 210 = .ok (.iload 6, 2) := by decide +kernel
theorem dX0_traceSteps_212 : decode cX0_traceSteps 212 = .ok (.iaload, 1) := by decide +kernel
theorem dX0_traceSteps_213 : decode cX0_traceSteps 213 = .ok (.aload_n 2, 1) := by decide +kernel
theorem dX0_traceSteps_214 : decode cX0_traceSteps 214 = .ok (.invokestatic 62, 3) := by decide +kernel
theorem dX0_traceSteps_217 : decode cX0_traceSteps 217 = .ok (.invokevirtual 75, 3) := by decide +kernel
theorem dX0_traceSteps_220 : decode cX0_traceSteps 220 = .ok (.iinc 6 1, 3) := by decide +kernel
theorem dX0_traceSteps_223 : decode cX0_traceSteps 223 = .ok (.iinc 7 1, 3) := by decide +kernel
theorem dX0_traceSteps_226 : decode cX0_traceSteps 226 = .ok (.goto (-200), 3) := by decide +kernel
theorem dX0_traceSteps_229 : decode cX0_traceSteps 229 = .ok (.return_, 1) := by decide +kernel
theorem dX1_init_0 : decode cX1_init 0 = .ok (.aload_n 0, 1) := by decide +kernel
theorem dX1_init_1 : decode cX1_init 1 = .ok (.invokespecial 3, 3) := by decide +kernel
theorem dX1_init_4 : decode cX1_init 4 = .ok (.aload_n 0, 1) := by decide +kernel
theorem dX1_init_5 : decode cX1_init 5 = .ok (.aload_n 1, 1) := by decide +kernel
theorem dX1_init_6 : decode cX1_init 6 = .ok (.putfield 9, 3) := by decide +kernel
theorem dX1_init_9 : decode cX1_init 9 = .ok (.aload_n 0, 1) := by decide +kernel
theorem dX1_init_10 : decode cX1_init 10 = .ok (.aload_n 2, 1) := by decide +kernel
theorem dX1_init_11 : decode cX1_init 11 = .ok (.putfield 15, 3) := by decide +kernel
theorem dX1_init_14 : decode cX1_init 14 = .ok (.aload_n 0, 1) := by decide +kernel
theorem dX1_init_15 : decode cX1_init 15 = .ok (.new 19, 3) := by decide +kernel
theorem dX1_init_18 : decode cX1_init 18 = .ok (.dup, 1) := by decide +kernel
theorem dX1_init_19 : decode cX1_init 19 = .ok (.aload_n 2, 1) := by decide +kernel
theorem dX1_init_20 : decode cX1_init 20 = .ok (.getfield 21, 3) := by decide +kernel
theorem dX1_init_23 : decode cX1_init 23 = .ok (.aload_n 1, 1) := by decide +kernel
theorem dX1_init_24 : decode cX1_init 24 = .ok (.getfield 25, 3) := by decide +kernel
theorem dX1_init_27 : decode cX1_init 27 = .ok (.aload_n 1, 1) := by decide +kernel
theorem dX1_init_28 : decode cX1_init 28 = .ok (.iconst 2, 1) := by decide +kernel
theorem dX1_init_29 : decode cX1_init 29 = .ok (.invokevirtual 30, 3) := by decide +kernel
theorem dX1_init_32 : decode cX1_init 32 = .ok (.isub, 1) := by decide +kernel
theorem dX1_init_33 : decode cX1_init 33 = .ok (.invokespecial 34, 3) := by decide +kernel
theorem dX1_init_36 : decode cX1_init 36 = .ok (.putfield 37, 3) := by decide +kernel
theorem dX1_init_39 : decode cX1_init 39 = .ok (.return_, 1) := by decide +kernel
theorem dX1_run_0 : decode cX1_run 0 = .ok (.iconst 0, 1) := by decide +kernel
theorem dX1_run_1 : decode cX1_run 1 = .ok (.istore_n 1, 1) := by decide +kernel
theorem dX1_run_2 : decode cX1_run 2 = .ok (.iload_n 1, 1) := by decide +kernel
theorem dX1_run_3 : decode cX1_run 3 = .ok (.aload_n 0, 1) := by decide +kernel
theorem dX1_run_4 : decode cX1_run 4 = .ok (.getfield 9, 3) := by decide +kernel
theorem dX1_run_7 : decode cX1_run 7 = .ok (.getfield 25, 3) := by decide +kernel
theorem dX1_run_10 : decode cX1_run 10 = .ok (.if_icmp .ge 32, 3) := by decide +kernel
theorem dX1_run_13 : decode cX1_run 13 = .ok (.aload_n 0, 1) := by decide +kernel
theorem dX1_run_14 : decode cX1_run 14 = .ok (.aload_n 0, 1) := by decide +kernel
theorem dX1_run_15 : decode cX1_run 15 = .ok (.iload_n 1, 1) := by decide +kernel
theorem dX1_run_16 : decode cX1_run 16 = .ok (.invokevirtual 40, 3) := by decide +kernel
theorem dX1_run_19 : decode cX1_run 19 = .ok (.putfield 43, 3) := by decide +kernel
theorem dX1_run_22 : decode cX1_run 22 = .ok (.aload_n 0, 1) := by decide +kernel
theorem dX1_run_23 : decode cX1_run 23 = .ok (.getfield 43, 3) := by decide +kernel
theorem dX1_run_26 : decode cX1_run 26 = .ok (.ifCond .eq 5, 3) := by decide +kernel
theorem dX1_run_29 : decode cX1_run 29 = .ok (.iload_n 1, 1) := by decide +kernel
theorem dX1_run_30 : decode cX1_run 30 = .ok (.ireturn, 1) := by decide +kernel
theorem dX1_run_31 : decode cX1_run 31 = .ok (.aload_n 0, 1) := by decide +kernel
theorem dX1_run_32 : decode cX1_run 32 = .ok (.iload_n 1, 1) := by decide +kernel
theorem dX1_run_33 : decode cX1_run 33 = .ok (.invokevirtual 46, 3) := by decide +kernel
theorem dX1_run_36 : decode cX1_run 36 = .ok (.iinc 1 1, 3) := by decide +kernel
theorem dX1_run_39 : decode cX1_run 39 = .ok (.goto (-37), 3) := by decide +kernel
theorem dX1_run_42 : decode cX1_run 42 = .ok (.aload_n 0, 1) := by decide +kernel
theorem dX1_run_43 : decode cX1_run 43 = .ok (.getfield 50, 3) := by decide +kernel
theorem dX1_run_46 : decode cX1_run 46 = .ok (.aload_n 0, 1) := by decide +kernel
theorem dX1_run_47 : decode cX1_run 47 = .ok (.getfield 15, 3) := by decide +kernel
theorem dX1_run_50 : decode cX1_run 50 = .ok (.getfield 53, 3) := by decide +kernel
theorem dX1_run_53 : decode cX1_run 53 = .ok (.if_icmp .ge 8, 3) := by decide +kernel
theorem dX1_run_56 : decode cX1_run 56 = .ok (.aload_n 0, 1) := by decide +kernel
theorem dX1_run_57 : decode cX1_run 57 = .ok (.iconst 3, 1) := by decide +kernel
theorem dX1_run_58 : decode cX1_run 58 = .ok (.putfield 43, 3) := by decide +kernel
theorem dX1_run_61 : decode cX1_run 61 = .ok (.aload_n 0, 1) := by decide +kernel
theorem dX1_run_62 : decode cX1_run 62 = .ok (.getfield 9, 3) := by decide +kernel
theorem dX1_run_65 : decode cX1_run 65 = .ok (.getfield 25, 3) := by decide +kernel
theorem dX1_run_68 : decode cX1_run 68 = .ok (.ireturn, 1) := by decide +kernel
theorem dX1_faultOf_0 : decode cX1_faultOf 0 = .ok (.aload_n 0, 1) := by decide +kernel
theorem dX1_faultOf_1 : decode cX1_faultOf 1 = .ok (.getfield 9, 3) := by decide +kernel
theorem dX1_faultOf_4 : decode cX1_faultOf 4 = .ok (.getfield 54, 3) := by decide +kernel
theorem dX1_faultOf_7 : decode cX1_faultOf 7 = .ok (.iload_n 1, 1) := by decide +kernel
theorem dX1_faultOf_8 : decode cX1_faultOf 8 = .ok (.iaload, 1) := by decide +kernel
theorem dX1_faultOf_9 : decode cX1_faultOf 9 = .ok (.istore_n 2, 1) := by decide +kernel
theorem dX1_faultOf_10 : decode cX1_faultOf 10 = .ok (.iload_n 2, 1) := by decide +kernel
theorem dX1_faultOf_11 : decode cX1_faultOf 11 = .ok (.iconst 3, 1) := by decide +kernel
theorem dX1_faultOf_12 : decode cX1_faultOf 12 = .ok (.if_icmp .eq 19, 3) := by decide +kernel
theorem dX1_faultOf_15 : decode cX1_faultOf 15 = .ok (.aload_n 0, 1) := by decide +kernel
theorem dX1_faultOf_16 : decode cX1_faultOf 16 = .ok (.getfield 50, 3) := by decide +kernel
theorem dX1_faultOf_19 : decode cX1_faultOf 19 = .ok (.aload_n 0, 1) := by decide +kernel
theorem dX1_faultOf_20 : decode cX1_faultOf 20 = .ok (.getfield 15, 3) := by decide +kernel
theorem dX1_faultOf_23 : decode cX1_faultOf 23 = .ok (.getfield 53, 3) := by decide +kernel
theorem dX1_faultOf_26 : decode cX1_faultOf 26 = .ok (.if_icmp .lt 5, 3) := by decide +kernel
theorem dX1_faultOf_29 : decode cX1_faultOf 29 = .ok (.iconst 3, 1) := by decide +kernel
theorem dX1_faultOf_30 : decode cX1_faultOf 30 = .ok (.ireturn, 1) := by decide +kernel
theorem dX1_faultOf_31 : decode cX1_faultOf 31 = .ok (.iload_n 2, 1) := by decide +kernel
theorem dX1_faultOf_32 : decode cX1_faultOf 32 = .ok (.iconst 1, 1) := by decide +kernel
theorem dX1_faultOf_33 : decode cX1_faultOf 33 = .ok (.if_icmp .eq 8, 3) := by decide +kernel
theorem dX1_faultOf_36 : decode cX1_faultOf 36 = .ok (.iload_n 2, 1) := by decide +kernel
theorem dX1_faultOf_37 : decode cX1_faultOf 37 = .ok (.iconst 2, 1) := by decide +kernel
theorem dX1_faultOf_38 : decode cX1_faultOf 38 = .ok (.if_icmp .ne 28, 3) := by decide +kernel
theorem dX1_faultOf_41 : decode cX1_faultOf 41 = .ok (.aload_n 0, 1) := by decide +kernel
theorem dX1_faultOf_42 : decode cX1_faultOf 42 = .ok (.getfield 15, 3) := by decide +kernel
theorem dX1_faultOf_45 : decode cX1_faultOf 45 = .ok (.aload_n 0, 1) := by decide +kernel
theorem dX1_faultOf_46 : decode cX1_faultOf 46 = .ok (.getfield 50, 3) := by decide +kernel
theorem dX1_faultOf_49 : decode cX1_faultOf 49 = .ok (.aload_n 0, 1) := by decide +kernel
theorem dX1_faultOf_50 : decode cX1_faultOf 50 = .ok (.getfield 9, 3) := by decide +kernel
theorem dX1_faultOf_53 : decode cX1_faultOf 53 = .ok (.getfield 58, 3) := by decide +kernel
theorem dX1_faultOf_56 : decode cX1_faultOf 56 = .ok (.iload_n 1, 1) := by decide +kernel
theorem dX1_faultOf_57 : decode cX1_faultOf 57 = .ok (.invokestatic 61, 3) := by decide +kernel
theorem dX1_faultOf_60 : decode cX1_faultOf 60 = .ok (.ifCond .ne 6, 3) := by decide +kernel
theorem dX1_faultOf_63 : decode cX1_faultOf 63 = .ok (.bipush 7, 2) := by decide +kernel
theorem dX1_faultOf_65 : decode cX1_faultOf 65 = .ok (.ireturn, 1) := by decide +kernel
theorem dX1_faultOf_66 : decode cX1_faultOf 66 = .ok (.iload_n 2, 1) := by decide +kernel
theorem dX1_faultOf_67 : decode cX1_faultOf 67 = .ok (.iconst 1, 1) := by decide +kernel
theorem dX1_faultOf_68 : decode cX1_faultOf 68 = .ok (.if_icmp .eq 8, 3) := by decide +kernel
theorem dX1_faultOf_71 : decode cX1_faultOf 71 = .ok (.iload_n 2, 1) := by decide +kernel
theorem dX1_faultOf_72 : decode cX1_faultOf 72 = .ok (.iconst 3, 1) := by decide +kernel
theorem dX1_faultOf_73 : decode cX1_faultOf 73 = .ok (.if_icmp .ne 7, 3) := by decide +kernel
theorem dX1_faultOf_76 : decode cX1_faultOf 76 = .ok (.iconst 1, 1) := by decide +kernel
theorem dX1_faultOf_77 : decode cX1_faultOf 77 = .ok (.goto 4, 3) := by decide +kernel
theorem dX1_faultOf_80 : decode cX1_faultOf 80 = .ok (.iconst 0, 1) := by decide +kernel
theorem dX1_faultOf_81 : decode cX1_faultOf 81 = .ok (.istore_n 3, 1) := by decide +kernel
theorem dX1_faultOf_82 : decode cX1_faultOf 82 = .ok (.iload_n 3, 1) := by decide +kernel
theorem dX1_faultOf_83 : decode cX1_faultOf 83 = .ok (.ifCond .eq 32, 3) := by decide +kernel
theorem dX1_faultOf_86 : decode cX1_faultOf 86 = .ok (.aload_n 0, 1) := by decide +kernel
theorem dX1_faultOf_87 : decode cX1_faultOf 87 = .ok (.getfield 9, 3) := by decide +kernel
theorem dX1_faultOf_90 : decode cX1_faultOf 90 = .ok (.getfield 67, 3) := by decide +kernel
theorem dX1_faultOf_93 : decode cX1_faultOf 93 = .ok (.getfield 70, 3) := by decide +kernel
theorem dX1_faultOf_96 : decode cX1_faultOf 96 = .ok (.iload_n 1, 1) := by decide +kernel
theorem dX1_faultOf_97 : decode cX1_faultOf 97 = .ok (.iaload, 1) := by decide +kernel
theorem dX1_faultOf_98 : decode cX1_faultOf 98 = .ok (.aload_n 0, 1) := by decide +kernel
theorem dX1_faultOf_99 : decode cX1_faultOf 99 = .ok (.getfield 15, 3) := by decide +kernel
theorem dX1_faultOf_102 : decode cX1_faultOf 102 = .ok (.getfield 21, 3) := by decide +kernel
theorem dX1_faultOf_105 : decode cX1_faultOf 105 = .ok (.invokestatic 73, 3) := by decide +kernel
theorem dX1_faultOf_108 : decode cX1_faultOf 108 = .ok (.ifCond .ne 7, 3) := by decide +kernel
theorem dX1_faultOf_111 : decode cX1_faultOf 111 = .ok (.iconst 5, 1) := by decide +kernel
theorem dX1_faultOf_112 : decode cX1_faultOf 112 = .ok (.goto 4, 3) := by decide +kernel
theorem dX1_faultOf_115 : decode cX1_faultOf 115 = .ok (.iconst 0, 1) := by decide +kernel
theorem dX1_faultOf_116 : decode cX1_faultOf 116 = .ok (.ireturn, 1) := by decide +kernel
theorem dX1_perform_0 : decode cX1_perform 0 = .ok (.aload_n 0, 1) := by decide +kernel
theorem dX1_perform_1 : decode cX1_perform 1 = .ok (.getfield 9, 3) := by decide +kernel
theorem dX1_perform_4 : decode cX1_perform 4 = .ok (.getfield 54, 3) := by decide +kernel
theorem dX1_perform_7 : decode cX1_perform 7 = .ok (.iload_n 1, 1) := by decide +kernel
theorem dX1_perform_8 : decode cX1_perform 8 = .ok (.iaload, 1) := by decide +kernel
theorem dX1_perform_9 : decode cX1_perform 9 = .ok (.istore_n 2, 1) := by decide +kernel
theorem dX1_perform_10 : decode cX1_perform 10 = .ok (.iload_n 2, 1) := by decide +kernel
theorem dX1_perform_11 : decode cX1_perform 11 = .ok (.ifCond .ne 25, 3) := by decide +kernel
theorem dX1_perform_14 : decode cX1_perform 14 = .ok (.aload_n 0, 1) := by decide +kernel
theorem dX1_perform_15 : decode cX1_perform 15 = .ok (.getfield 37, 3) := by decide +kernel
theorem dX1_perform_18 : decode cX1_perform 18 = .ok (.aload_n 0, 1) := by decide +kernel
theorem dX1_perform_19 : decode cX1_perform 19 = .ok (.getfield 79, 3) := by decide +kernel
theorem dX1_perform_22 : decode cX1_perform 22 = .ok (.aload_n 0, 1) := by decide +kernel
theorem dX1_perform_23 : decode cX1_perform 23 = .ok (.getfield 15, 3) := by decide +kernel
theorem dX1_perform_26 : decode cX1_perform 26 = .ok (.aload_n 0, 1) := by decide +kernel
theorem dX1_perform_27 : decode cX1_perform 27 = .ok (.getfield 50, 3) := by decide +kernel
theorem dX1_perform_30 : decode cX1_perform 30 = .ok (.invokevirtual 82, 3) := by decide +kernel
theorem dX1_perform_33 : decode cX1_perform 33 = .ok (.goto 27, 3) := by decide +kernel
theorem dX1_perform_36 : decode cX1_perform 36 = .ok (.iload_n 2, 1) := by decide +kernel
theorem dX1_perform_37 : decode cX1_perform 37 = .ok (.iconst 2, 1) := by decide +kernel
theorem dX1_perform_38 : decode cX1_perform 38 = .ok (.if_icmp .eq 22, 3) := by decide +kernel
theorem dX1_perform_41 : decode cX1_perform 41 = .ok (.aload_n 0, 1) := by decide +kernel
theorem dX1_perform_42 : decode cX1_perform 42 = .ok (.getfield 37, 3) := by decide +kernel
theorem dX1_perform_45 : decode cX1_perform 45 = .ok (.aload_n 0, 1) := by decide +kernel
theorem dX1_perform_46 : decode cX1_perform 46 = .ok (.getfield 79, 3) := by decide +kernel
theorem dX1_perform_49 : decode cX1_perform 49 = .ok (.aload_n 0, 1) := by decide +kernel
theorem dX1_perform_50 : decode cX1_perform 50 = .ok (.getfield 9, 3) := by decide +kernel
theorem dX1_perform_53 : decode cX1_perform 53 = .ok (.getfield 67, 3) := by decide +kernel
theorem dX1_perform_56 : decode cX1_perform 56 = .ok (.iload_n 1, 1) := by decide +kernel
theorem dX1_perform_57 : decode cX1_perform 57 = .ok (.invokevirtual 82, 3) := by decide +kernel
theorem dX1_perform_60 : decode cX1_perform 60 = .ok (.iload_n 2, 1) := by decide +kernel
theorem dX1_perform_61 : decode cX1_perform 61 = .ok (.iconst 2, 1) := by decide +kernel
theorem dX1_perform_62 : decode cX1_perform 62 = .ok (.if_icmp .eq 13, 3) := by decide +kernel
theorem dX1_perform_65 : decode cX1_perform 65 = .ok (.aload_n 0, 1) := by decide +kernel
theorem dX1_perform_66 : decode cX1_perform 66 = .ok (.dup, 1) := by decide +kernel
theorem dX1_perform_67 : decode cX1_perform 67 = .ok (.getfield 79, 3) := by decide +kernel
theorem dX1_perform_70 : decode cX1_perform 70 = .ok (.iconst 1, 1) := by decide +kernel
theorem dX1_perform_71 : decode cX1_perform 71 = .ok (.iadd, 1) := by decide +kernel
theorem dX1_perform_72 : decode cX1_perform 72 = .ok (.putfield 79, 3) := by decide +kernel
theorem dX1_perform_75 : decode cX1_perform 75 = .ok (.iload_n 2, 1) := by decide +kernel
theorem dX1_perform_76 : decode cX1_perform 76 = .ok (.iconst 3, 1) := by decide +kernel
theorem dX1_perform_77 : decode cX1_perform 77 = .ok (.if_icmp .eq 13, 3) := by decide +kernel
theorem dX1_perform_80 : decode cX1_perform 80 = .ok (.aload_n 0, 1) := by decide +kernel
theorem dX1_perform_81 : decode cX1_perform 81 = .ok (.dup, 1) := by decide +kernel
theorem dX1_perform_82 : decode cX1_perform 82 = .ok (.getfield 50, 3) := by decide +kernel
theorem dX1_perform_85 : decode cX1_perform 85 = .ok (.iconst 1, 1) := by decide +kernel
theorem dX1_perform_86 : decode cX1_perform 86 = .ok (.iadd, 1) := by decide +kernel
theorem dX1_perform_87 : decode cX1_perform 87 = .ok (.putfield 50, 3) := by decide +kernel
theorem dX1_perform_90 : decode cX1_perform 90 = .ok (.return_, 1) := by decide +kernel
theorem dX2_ofFloat_0 : decode cX2_ofFloat 0 = .ok (.dload_n 0, 1) := by decide +kernel
theorem dX2_ofFloat_1 : decode cX2_ofFloat 1 = .ok (.dconst 0, 1) := by decide +kernel
theorem dX2_ofFloat_2 : decode cX2_ofFloat 2 = .ok (.dcmp .g, 1) := by decide +kernel
theorem dX2_ofFloat_3 : decode cX2_ofFloat 3 = .ok (.ifCond .ge 8, 3) := by decide +kernel
theorem dX2_ofFloat_6 : decode cX2_ofFloat 6 = .ok (.dload_n 0, 1) := by decide +kernel
theorem dX2_ofFloat_7 : decode cX2_ofFloat 7 = .ok (.dneg, 1) := by decide +kernel
theorem dX2_ofFloat_8 : decode cX2_ofFloat 8 = .ok (.goto 4, 3) := by decide +kernel
theorem dX2_ofFloat_11 : decode cX2_ofFloat 11 = .ok (.dload_n 0, 1) := by decide +kernel
theorem dX2_ofFloat_12 : decode cX2_ofFloat 12 = .ok (.bipush 23, 2) := by decide +kernel
theorem dX2_ofFloat_14 : decode cX2_ofFloat 14 = .ok (.bipush (-126), 2) := by decide +kernel
theorem dX2_ofFloat_16 : decode cX2_ofFloat 16 = .ok (.invokestatic 7, 3) := by decide +kernel
theorem dX2_ofFloat_19 : decode cX2_ofFloat 19 = .ok (.lstore_n 2, 1) := by decide +kernel
theorem dX2_ofFloat_20 : decode cX2_ofFloat 20 = .ok (.dload_n 0, 1) := by decide +kernel
theorem dX2_ofFloat_21 : decode cX2_ofFloat 21 = .ok (.dconst 0, 1) := by decide +kernel
theorem dX2_ofFloat_22 : decode cX2_ofFloat 22 = .ok (.dcmp .g, 1) := by decide +kernel
theorem dX2_ofFloat_23 : decode cX2_ofFloat 23 = .ok (.ifCond .ge 11, 3) := by decide +kernel
theorem dX2_ofFloat_26 : decode cX2_ofFloat 26 = .ok (.lload_n 2, 1) := by decide +kernel
theorem dX2_ofFloat_27 : decode cX2_ofFloat 27 = .ok (.ldc2_w 13, 3) := by decide +kernel
theorem dX2_ofFloat_30 : decode cX2_ofFloat 30 = .ok (.lsub, 1) := by decide +kernel
theorem dX2_ofFloat_31 : decode cX2_ofFloat 31 = .ok (.goto 4, 3) := by decide +kernel
theorem dX2_ofFloat_34 : decode cX2_ofFloat 34 = .ok (.lload_n 2, 1) := by decide +kernel
theorem dX2_ofFloat_35 : decode cX2_ofFloat 35 = .ok (.lreturn, 1) := by decide +kernel
theorem dX2_ofDouble_0 : decode cX2_ofDouble 0 = .ok (.dload_n 0, 1) := by decide +kernel
theorem dX2_ofDouble_1 : decode cX2_ofDouble 1 = .ok (.dconst 0, 1) := by decide +kernel
theorem dX2_ofDouble_2 : decode cX2_ofDouble 2 = .ok (.dcmp .g, 1) := by decide +kernel
theorem dX2_ofDouble_3 : decode cX2_ofDouble 3 = .ok (.ifCond .ge 8, 3) := by decide +kernel
theorem dX2_ofDouble_6 : decode cX2_ofDouble 6 = .ok (.dload_n 0, 1) := by decide +kernel
theorem dX2_ofDouble_7 : decode cX2_ofDouble 7 = .ok (.dneg, 1) := by decide +kernel
theorem dX2_ofDouble_8 : decode cX2_ofDouble 8 = .ok (.goto 4, 3) := by decide +kernel
theorem dX2_ofDouble_11 : decode cX2_ofDouble 11 = .ok (.dload_n 0, 1) := by decide +kernel
theorem dX2_ofDouble_12 : decode cX2_ofDouble 12 = .ok (.bipush 52, 2) := by decide +kernel
theorem dX2_ofDouble_14 : decode cX2_ofDouble 14 = .ok (.sipush (-1022), 3) := by decide +kernel
theorem dX2_ofDouble_17 : decode cX2_ofDouble 17 = .ok (.invokestatic 7, 3) := by decide +kernel
theorem dX2_ofDouble_20 : decode cX2_ofDouble 20 = .ok (.lstore_n 2, 1) := by decide +kernel
theorem dX2_ofDouble_21 : decode cX2_ofDouble 21 = .ok (.dload_n 0, 1) := by decide +kernel
theorem dX2_ofDouble_22 : decode cX2_ofDouble 22 = .ok (.dconst 0, 1) := by decide +kernel
theorem dX2_ofDouble_23 : decode cX2_ofDouble 23 = .ok (.dcmp .g, 1) := by decide +kernel
theorem dX2_ofDouble_24 : decode cX2_ofDouble 24 = .ok (.ifCond .ge 11, 3) := by decide +kernel
theorem dX2_ofDouble_27 : decode cX2_ofDouble 27 = .ok (.lload_n 2, 1) := by decide +kernel
theorem dX2_ofDouble_28 : decode cX2_ofDouble 28 = .ok (.ldc2_w 15, 3) := by decide +kernel
theorem dX2_ofDouble_31 : decode cX2_ofDouble 31 = .ok (.lsub, 1) := by decide +kernel
theorem dX2_ofDouble_32 : decode cX2_ofDouble 32 = .ok (.goto 4, 3) := by decide +kernel
theorem dX2_ofDouble_35 : decode cX2_ofDouble 35 = .ok (.lload_n 2, 1) := by decide +kernel
theorem dX2_ofDouble_36 : decode cX2_ofDouble 36 = .ok (.lreturn, 1) := by decide +kernel
theorem dX2_ofSize_0 : decode cX2_ofSize 0 = .ok (.dload_n 0, 1) := by decide +kernel
theorem dX2_ofSize_1 : decode cX2_ofSize 1 = .ok (.dconst 0, 1) := by decide +kernel
theorem dX2_ofSize_2 : decode cX2_ofSize 2 = .ok (.dcmp .l, 1) := by decide +kernel
theorem dX2_ofSize_3 : decode cX2_ofSize 3 = .ok (.ifCond .ne 5, 3) := by decide +kernel
theorem dX2_ofSize_6 : decode cX2_ofSize 6 = .ok (.lconst 0, 1) := by decide +kernel
theorem dX2_ofSize_7 : decode cX2_ofSize 7 = .ok (.lreturn, 1) := by decide +kernel
theorem dX2_ofSize_8 : decode cX2_ofSize 8 = .ok (.dload_n 0, 1) := by decide +kernel
theorem dX2_ofSize_9 : decode cX2_ofSize 9 = .ok (.dstore 4, 2) := by decide +kernel
theorem dX2_ofSize_11 : decode cX2_ofSize 11 = .ok (.iconst 0, 1) := by decide +kernel
theorem dX2_ofSize_12 : decode cX2_ofSize 12 = .ok (.istore 6, 2) := by decide +kernel
theorem dX2_ofSize_14 : decode cX2_ofSize 14 = .ok (.iconst 0, 1) := by decide +kernel
theorem dX2_ofSize_15 : decode cX2_ofSize 15 = .ok (.istore 7, 2) := by decide +kernel
theorem dX2_ofSize_17 : decode cX2_ofSize 17 = .ok (.iload 7, 2) := by decide +kernel
theorem dX2_ofSize_19 : decode cX2_ofSize 19 = .ok (.sipush 1100, 3) := by decide +kernel
theorem dX2_ofSize_22 : decode cX2_ofSize 22 = .ok (.if_icmp .ge 29, 3) := by decide +kernel
theorem dX2_ofSize_25 : decode cX2_ofSize 25 = .ok (.dload 4, 2) := by decide +kernel
theorem dX2_ofSize_27 : decode cX2_ofSize 27 = .ok (.ldc2_w 17, 3) := by decide +kernel
theorem dX2_ofSize_30 : decode cX2_ofSize 30 = .ok (.dcmp .l, 1) := by decide +kernel
theorem dX2_ofSize_31 : decode cX2_ofSize 31 = .ok (.ifCond .lt 20, 3) := by decide +kernel
theorem dX2_ofSize_34 : decode cX2_ofSize 34 = .ok (.dload 4, 2) := by decide +kernel
theorem dX2_ofSize_36 : decode cX2_ofSize 36 = .ok (.ldc2_w 19, 3) := by decide +kernel
theorem dX2_ofSize_39 : decode cX2_ofSize 39 = .ok (.dmul, 1) := by decide +kernel
theorem dX2_ofSize_40 : decode cX2_ofSize 40 = .ok (.dstore 4, 2) := by decide +kernel
theorem dX2_ofSize_42 : decode cX2_ofSize 42 = .ok (.iinc 6 1, 3) := by decide +kernel
theorem dX2_ofSize_45 : decode cX2_ofSize 45 = .ok (.iinc 7 1, 3) := by decide +kernel
theorem dX2_ofSize_48 : decode cX2_ofSize 48 = .ok (.goto (-31), 3) := by decide +kernel
theorem dX2_ofSize_51 : decode cX2_ofSize 51 = .ok (.iconst 0, 1) := by decide +kernel
theorem dX2_ofSize_52 : decode cX2_ofSize 52 = .ok (.istore 7, 2) := by decide +kernel
theorem dX2_ofSize_54 : decode cX2_ofSize 54 = .ok (.iload 7, 2) := by decide +kernel
theorem dX2_ofSize_56 : decode cX2_ofSize 56 = .ok (.sipush 1100, 3) := by decide +kernel
theorem dX2_ofSize_59 : decode cX2_ofSize 59 = .ok (.if_icmp .ge 33, 3) := by decide +kernel
theorem dX2_ofSize_62 : decode cX2_ofSize 62 = .ok (.dload 4, 2) := by decide +kernel
theorem dX2_ofSize_64 : decode cX2_ofSize 64 = .ok (.dconst 1, 1) := by decide +kernel
theorem dX2_ofSize_65 : decode cX2_ofSize 65 = .ok (.dcmp .g, 1) := by decide +kernel
theorem dX2_ofSize_66 : decode cX2_ofSize 66 = .ok (.ifCond .ge 26, 3) := by decide +kernel
theorem dX2_ofSize_69 : decode cX2_ofSize 69 = .ok (.iload 6, 2) := by decide +kernel
theorem dX2_ofSize_71 : decode cX2_ofSize 71 = .ok (.iload_n 3, 1) := by decide +kernel
theorem dX2_ofSize_72 : decode cX2_ofSize 72 = .ok (.if_icmp .le 20, 3) := by decide +kernel
theorem dX2_ofSize_75 : decode cX2_ofSize 75 = .ok (.dload 4, 2) := by decide +kernel
theorem dX2_ofSize_77 : decode cX2_ofSize 77 = .ok (.ldc2_w 17, 3) := by decide +kernel
theorem dX2_ofSize_80 : decode cX2_ofSize 80 = .ok (.dmul, 1) := by decide +kernel
theorem dX2_ofSize_81 : decode cX2_ofSize 81 = .ok (.dstore 4, 2) := by decide +kernel
theorem dX2_ofSize_83 : decode cX2_ofSize 83 = .ok (.iinc 6 (-1), 3) := by decide +kernel
theorem dX2_ofSize_86 : decode cX2_ofSize 86 = .ok (.iinc 7 1, 3) := by decide +kernel
theorem dX2_ofSize_89 : decode cX2_ofSize 89 = .ok (.goto (-35), 3) := by decide +kernel
theorem dX2_ofSize_92 : decode cX2_ofSize 92 = .ok (.iload 6, 2) := by decide +kernel
theorem dX2_ofSize_94 : decode cX2_ofSize 94 = .ok (.iload_n 3, 1) := by decide +kernel
theorem dX2_ofSize_95 : decode cX2_ofSize 95 = .ok (.isub, 1) := by decide +kernel
theorem dX2_ofSize_96 : decode cX2_ofSize 96 = .ok (.i2l, 1) := by decide +kernel
theorem dX2_ofSize_97 : decode cX2_ofSize 97 = .ok (.iload_n 2, 1) := by decide +kernel
theorem dX2_ofSize_98 : decode cX2_ofSize 98 = .ok (.lshl, 1) := by decide +kernel
theorem dX2_ofSize_99 : decode cX2_ofSize 99 = .ok (.dload 4, 2) := by decide +kernel
theorem dX2_ofSize_101 : decode cX2_ofSize 101 = .ok (.lconst 1, 1) := by decide +kernel
theorem dX2_ofSize_102 : decode cX2_ofSize 102 = .ok (.iload_n 2, 1) := by decide +kernel
theorem dX2_ofSize_103 : decode cX2_ofSize 103 = .ok (.lshl, 1) := by decide +kernel
theorem dX2_ofSize_104 : decode cX2_ofSize 104 = .ok (.l2d, 1) := by decide +kernel
theorem dX2_ofSize_105 : decode cX2_ofSize 105 = .ok (.dmul, 1) := by decide +kernel
theorem dX2_ofSize_106 : decode cX2_ofSize 106 = .ok (.d2l, 1) := by decide +kernel
theorem dX2_ofSize_107 : decode cX2_ofSize 107 = .ok (.ladd, 1) := by decide +kernel
theorem dX2_ofSize_108 : decode cX2_ofSize 108 = .ok (.lreturn, 1) := by decide +kernel
theorem dX3_init_0 : decode cX3_init 0 = .ok (.aload_n 0, 1) := by decide +kernel
theorem dX3_init_1 : decode cX3_init 1 = .ok (.invokespecial 3, 3) := by decide +kernel
theorem dX3_init_4 : decode cX3_init 4 = .ok (.aload_n 0, 1) := by decide +kernel
theorem dX3_init_5 : decode cX3_init 5 = .ok (.iload_n 1, 1) := by decide +kernel
theorem dX3_init_6 : decode cX3_init 6 = .ok (.putfield 9, 3) := by decide +kernel
theorem dX3_init_9 : decode cX3_init 9 = .ok (.aload_n 0, 1) := by decide +kernel
theorem dX3_init_10 : decode cX3_init 10 = .ok (.iload_n 2, 1) := by decide +kernel
theorem dX3_init_11 : decode cX3_init 11 = .ok (.putfield 15, 3) := by decide +kernel
theorem dX3_init_14 : decode cX3_init 14 = .ok (.aload_n 0, 1) := by decide +kernel
theorem dX3_init_15 : decode cX3_init 15 = .ok (.iload_n 2, 1) := by decide +kernel
theorem dX3_init_16 : decode cX3_init 16 = .ok (.newarray .int, 2) := by decide +kernel
theorem dX3_init_18 : decode cX3_init 18 = .ok (.putfield 18, 3) := by decide +kernel
theorem dX3_init_21 : decode cX3_init 21 = .ok (.aload_n 0, 1) := by decide +kernel
theorem dX3_init_22 : decode cX3_init 22 = .ok (.iload_n 2, 1) := by decide +kernel
theorem dX3_init_23 : decode cX3_init 23 = .ok (.newarray .long, 2) := by decide +kernel
theorem dX3_init_25 : decode cX3_init 25 = .ok (.putfield 22, 3) := by decide +kernel
theorem dX3_init_28 : decode cX3_init 28 = .ok (.aload_n 0, 1) := by decide +kernel
theorem dX3_init_29 : decode cX3_init 29 = .ok (.iload_n 2, 1) := by decide +kernel
theorem dX3_init_30 : decode cX3_init 30 = .ok (.newarray .double, 2) := by decide +kernel
theorem dX3_init_32 : decode cX3_init 32 = .ok (.putfield 26, 3) := by decide +kernel
theorem dX3_init_35 : decode cX3_init 35 = .ok (.iconst 0, 1) := by decide +kernel
theorem dX3_init_36 : decode cX3_init 36 = .ok (.istore_n 3, 1) := by decide +kernel
theorem dX3_init_37 : decode cX3_init 37 = .ok (.iload_n 3, 1) := by decide +kernel
theorem dX3_init_38 : decode cX3_init 38 = .ok (.iload_n 2, 1) := by decide +kernel
theorem dX3_init_39 : decode cX3_init 39 = .ok (.if_icmp .ge 27, 3) := by decide +kernel
theorem dX3_init_42 : decode cX3_init 42 = .ok (.aload_n 0, 1) := by decide +kernel
theorem dX3_init_43 : decode cX3_init 43 = .ok (.getfield 18, 3) := by decide +kernel
theorem dX3_init_46 : decode cX3_init 46 = .ok (.iload_n 3, 1) := by decide +kernel
theorem dX3_init_47 : decode cX3_init 47 = .ok (.iload_n 1, 1) := by decide +kernel
theorem dX3_init_48 : decode cX3_init 48 = .ok (.bipush 7, 2) := by decide +kernel
theorem dX3_init_50 : decode cX3_init 50 = .ok (.if_icmp .gt 7, 3) := by decide +kernel
theorem dX3_init_53 : decode cX3_init 53 = .ok (.iload_n 1, 1) := by decide +kernel
theorem dX3_init_54 : decode cX3_init 54 = .ok (.goto 5, 3) := by decide +kernel
theorem dX3_init_57 : decode cX3_init 57 = .ok (.bipush 9, 2) := by decide +kernel
theorem dX3_init_59 : decode cX3_init 59 = .ok (.iastore, 1) := by decide +kernel
theorem dX3_init_60 : decode cX3_init 60 = .ok (.iinc 3 1, 3) := by decide +kernel
theorem dX3_init_63 : decode cX3_init 63 = .ok (.goto (-26), 3) := by decide +kernel
theorem dX3_init_66 : decode cX3_init 66 = .ok (.return_, 1) := by decide +kernel
theorem dX3_copy_0 : decode cX3_copy 0 = .ok (.new 10, 3) := by decide +kernel
theorem dX3_copy_3 : decode cX3_copy 3 = .ok (.dup, 1) := by decide +kernel
theorem dX3_copy_4 : decode cX3_copy 4 = .ok (.aload_n 0, 1) := by decide +kernel
theorem dX3_copy_5 : decode cX3_copy 5 = .ok (.getfield 9, 3) := by decide +kernel
theorem dX3_copy_8 : decode cX3_copy 8 = .ok (.aload_n 0, 1) := by decide +kernel
theorem dX3_copy_9 : decode cX3_copy 9 = .ok (.getfield 15, 3) := by decide +kernel
theorem dX3_copy_12 : decode cX3_copy 12 = .ok (.invokespecial 30, 3) := by decide +kernel
theorem dX3_copy_15 : decode cX3_copy 15 = .ok (.astore_n 1, 1) := by decide +kernel
theorem dX3_copy_16 : decode cX3_copy 16 = .ok (.iconst 0, 1) := by decide +kernel
theorem dX3_copy_17 : decode cX3_copy 17 = .ok (.istore_n 2, 1) := by decide +kernel
theorem dX3_copy_18 : decode cX3_copy 18 = .ok (.iload_n 2, 1) := by decide +kernel
theorem dX3_copy_19 : decode cX3_copy 19 = .ok (.aload_n 0, 1) := by decide +kernel
theorem dX3_copy_20 : decode cX3_copy 20 = .ok (.getfield 15, 3) := by decide +kernel
theorem dX3_copy_23 : decode cX3_copy 23 = .ok (.if_icmp .ge 16, 3) := by decide +kernel
theorem dX3_copy_26 : decode cX3_copy 26 = .ok (.aload_n 1, 1) := by decide +kernel
theorem dX3_copy_27 : decode cX3_copy 27 = .ok (.iload_n 2, 1) := by decide +kernel
theorem dX3_copy_28 : decode cX3_copy 28 = .ok (.aload_n 0, 1) := by decide +kernel
theorem dX3_copy_29 : decode cX3_copy 29 = .ok (.iload_n 2, 1) := by decide +kernel
theorem dX3_copy_30 : decode cX3_copy 30 = .ok (.invokevirtual 33, 3) := by decide +kernel
theorem dX3_copy_33 : decode cX3_copy 33 = .ok (.iinc 2 1, 3) := by decide +kernel
theorem dX3_copy_36 : decode cX3_copy 36 = .ok (.goto (-18), 3) := by decide +kernel
theorem dX3_copy_39 : decode cX3_copy 39 = .ok (.aload_n 1, 1) := by decide +kernel
theorem dX3_copy_40 : decode cX3_copy 40 = .ok (.areturn, 1) := by decide +kernel
theorem dX3_setWhole_0 : decode cX3_setWhole 0 = .ok (.aload_n 0, 1) := by decide +kernel
theorem dX3_setWhole_1 : decode cX3_setWhole 1 = .ok (.getfield 18, 3) := by decide +kernel
theorem dX3_setWhole_4 : decode cX3_setWhole 4 = .ok (.iload_n 1, 1) := by decide +kernel
theorem dX3_setWhole_5 : decode cX3_setWhole 5 = .ok (.iload_n 2, 1) := by decide +kernel
theorem dX3_setWhole_6 : decode cX3_setWhole 6 = .ok (.iastore, 1) := by decide +kernel
theorem dX3_setWhole_7 : decode cX3_setWhole 7 = .ok (.aload_n 0, 1) := by decide +kernel
theorem dX3_setWhole_8 : decode cX3_setWhole 8 = .ok (.getfield 22, 3) := by decide +kernel
theorem dX3_setWhole_11 : decode cX3_setWhole 11 = .ok (.iload_n 1, 1) := by decide +kernel
theorem dX3_setWhole_12 : decode cX3_setWhole 12 = .ok (.lload_n 3, 1) := by decide +kernel
theorem dX3_setWhole_13 : decode cX3_setWhole 13 = .ok (.lastore, 1) := by decide +kernel
theorem dX3_setWhole_14 : decode cX3_setWhole 14 = .ok (.aload_n 0, 1) := by decide +kernel
theorem dX3_setWhole_15 : decode cX3_setWhole 15 = .ok (.getfield 26, 3) := by decide +kernel
theorem dX3_setWhole_18 : decode cX3_setWhole 18 = .ok (.iload_n 1, 1) := by decide +kernel
theorem dX3_setWhole_19 : decode cX3_setWhole 19 = .ok (.dconst 0, 1) := by decide +kernel
theorem dX3_setWhole_20 : decode cX3_setWhole 20 = .ok (.dastore, 1) := by decide +kernel
theorem dX3_setWhole_21 : decode cX3_setWhole 21 = .ok (.return_, 1) := by decide +kernel
theorem dX3_setReal_0 : decode cX3_setReal 0 = .ok (.aload_n 0, 1) := by decide +kernel
theorem dX3_setReal_1 : decode cX3_setReal 1 = .ok (.getfield 18, 3) := by decide +kernel
theorem dX3_setReal_4 : decode cX3_setReal 4 = .ok (.iload_n 1, 1) := by decide +kernel
theorem dX3_setReal_5 : decode cX3_setReal 5 = .ok (.iload_n 2, 1) := by decide +kernel
theorem dX3_setReal_6 : decode cX3_setReal 6 = .ok (.iastore, 1) := by decide +kernel
theorem dX3_setReal_7 : decode cX3_setReal 7 = .ok (.aload_n 0, 1) := by decide +kernel
theorem dX3_setReal_8 : decode cX3_setReal 8 = .ok (.getfield 22, 3) := by decide +kernel
theorem dX3_setReal_11 : decode cX3_setReal 11 = .ok (.iload_n 1, 1) := by decide +kernel
theorem dX3_setReal_12 : decode cX3_setReal 12 = .ok (.lconst 0, 1) := by decide +kernel
theorem dX3_setReal_13 : decode cX3_setReal 13 = .ok (.lastore, 1) := by decide +kernel
theorem dX3_setReal_14 : decode cX3_setReal 14 = .ok (.aload_n 0, 1) := by decide +kernel
theorem dX3_setReal_15 : decode cX3_setReal 15 = .ok (.getfield 26, 3) := by decide +kernel
theorem dX3_setReal_18 : decode cX3_setReal 18 = .ok (.iload_n 1, 1) := by decide +kernel
theorem dX3_setReal_19 : decode cX3_setReal 19 = .ok (.dload_n 3, 1) := by decide +kernel
theorem dX3_setReal_20 : decode cX3_setReal 20 = .ok (.dastore, 1) := by decide +kernel
theorem dX3_setReal_21 : decode cX3_setReal 21 = .ok (.return_, 1) := by decide +kernel
theorem dX3_setValue_0 : decode cX3_setValue 0 = .ok (.iload_n 2, 1) := by decide +kernel
theorem dX3_setValue_1 : decode cX3_setValue 1 = .ok (.bipush 6, 2) := by decide +kernel
theorem dX3_setValue_3 : decode cX3_setValue 3 = .ok (.if_icmp .ne 18, 3) := by decide +kernel
theorem dX3_setValue_6 : decode cX3_setValue 6 = .ok (.aload_n 0, 1) := by decide +kernel
theorem dX3_setValue_7 : decode cX3_setValue 7 = .ok (.iload_n 1, 1) := by decide +kernel
theorem dX3_setValue_8 : decode cX3_setValue 8 = .ok (.iload_n 2, 1) := by decide +kernel
theorem dX3_setValue_9 : decode cX3_setValue 9 = .ok (.iload_n 3, 1) := by decide +kernel
theorem dX3_setValue_10 : decode cX3_setValue 10 = .ok (.i2f, 1) := by decide +kernel
theorem dX3_setValue_11 : decode cX3_setValue 11 = .ok (.ldc 37, 2) := by decide +kernel
theorem dX3_setValue_13 : decode cX3_setValue 13 = .ok (.fmul, 1) := by decide +kernel
theorem dX3_setValue_14 : decode cX3_setValue 14 = .ok (.f2d, 1) := by decide +kernel
theorem dX3_setValue_15 : decode cX3_setValue 15 = .ok (.invokevirtual 38, 3) := by decide +kernel
theorem dX3_setValue_18 : decode cX3_setValue 18 = .ok (.goto 36, 3) := by decide +kernel
theorem dX3_setValue_21 : decode cX3_setValue 21 = .ok (.iload_n 2, 1) := by decide +kernel
theorem dX3_setValue_22 : decode cX3_setValue 22 = .ok (.bipush 7, 2) := by decide +kernel
theorem dX3_setValue_24 : decode cX3_setValue 24 = .ok (.if_icmp .ne 18, 3) := by decide +kernel
theorem dX3_setValue_27 : decode cX3_setValue 27 = .ok (.aload_n 0, 1) := by decide +kernel
theorem dX3_setValue_28 : decode cX3_setValue 28 = .ok (.iload_n 1, 1) := by decide +kernel
theorem dX3_setValue_29 : decode cX3_setValue 29 = .ok (.iload_n 2, 1) := by decide +kernel
theorem dX3_setValue_30 : decode cX3_setValue 30 = .ok (.iload_n 3, 1) := by decide +kernel
theorem dX3_setValue_31 : decode cX3_setValue 31 = .ok (.i2d, 1) := by decide +kernel
theorem dX3_setValue_32 : decode cX3_setValue 32 = .ok (.ldc2_w 42, 3) := by decide +kernel
theorem dX3_setValue_35 : decode cX3_setValue 35 = .ok (.dmul, 1) := by decide +kernel
theorem dX3_setValue_36 : decode cX3_setValue 36 = .ok (.invokevirtual 38, 3) := by decide +kernel
theorem dX3_setValue_39 : decode cX3_setValue 39 = .ok (.goto 15, 3) := by decide +kernel
theorem dX3_setValue_42 : decode cX3_setValue 42 = .ok (.aload_n 0, 1) := by decide +kernel
theorem dX3_setValue_43 : decode cX3_setValue 43 = .ok (.iload_n 1, 1) := by decide +kernel
theorem dX3_setValue_44 : decode cX3_setValue 44 = .ok (.iload_n 2, 1) := by decide +kernel
theorem dX3_setValue_45 : decode cX3_setValue 45 = .ok (.iload_n 2, 1) := by decide +kernel
theorem dX3_setValue_46 : decode cX3_setValue 46 = .ok (.iload_n 3, 1) := by decide +kernel
theorem dX3_setValue_47 : decode cX3_setValue 47 = .ok (.i2l, 1) := by decide +kernel
theorem dX3_setValue_48 : decode cX3_setValue 48 = .ok (.invokestatic 44, 3) := by decide +kernel
theorem dX3_setValue_51 : decode cX3_setValue 51 = .ok (.invokevirtual 48, 3) := by decide +kernel
theorem dX3_setValue_54 : decode cX3_setValue 54 = .ok (.return_, 1) := by decide +kernel
theorem dX3_wholeOf_0 : decode cX3_wholeOf 0 = .ok (.iload_n 0, 1) := by decide +kernel
theorem dX3_wholeOf_1 : decode cX3_wholeOf 1 = .ok (.tableswitch 92 0 10 #[59, 63, 68, 73, 78, 92, 92, 92, 92, 82, 84], 59) := by decide +kernel
theorem dX3_wholeOf_60 : decode cX3_wholeOf 60 = .ok (.lload_n 1, 1) := by decide +kernel
theorem dX3_wholeOf_61 : decode cX3_wholeOf 61 = .ok (.lconst 1, 1) := by decide +kernel
theorem dX3_wholeOf_62 : decode cX3_wholeOf 62 = .ok (.land, 1) := by decide +kernel
theorem dX3_wholeOf_63 : decode cX3_wholeOf 63 = .ok (.lreturn, 1) := by decide +kernel
theorem dX3_wholeOf_64 : decode cX3_wholeOf 64 = .ok (.lload_n 1, 1) := by decide +kernel
theorem dX3_wholeOf_65 : decode cX3_wholeOf 65 = .ok (.l2i, 1) := by decide +kernel
theorem dX3_wholeOf_66 : decode cX3_wholeOf 66 = .ok (.i2b, 1) := by decide +kernel
theorem dX3_wholeOf_67 : decode cX3_wholeOf 67 = .ok (.i2l, 1) := by decide +kernel
theorem dX3_wholeOf_68 : decode cX3_wholeOf 68 = .ok (.lreturn, 1) := by decide +kernel
theorem dX3_wholeOf_69 : decode cX3_wholeOf 69 = .ok (.lload_n 1, 1) := by decide +kernel
theorem dX3_wholeOf_70 : decode cX3_wholeOf 70 = .ok (.l2i, 1) := by decide +kernel
theorem dX3_wholeOf_71 : decode cX3_wholeOf 71 = .ok (.i2c, 1) := by decide +kernel
theorem dX3_wholeOf_72 : decode cX3_wholeOf 72 = .ok (.i2l, 1) := by decide +kernel
theorem dX3_wholeOf_73 : decode cX3_wholeOf 73 = .ok (.lreturn, 1) := by decide +kernel
theorem dX3_wholeOf_74 : decode cX3_wholeOf 74 = .ok (.lload_n 1, 1) := by decide +kernel
theorem dX3_wholeOf_75 : decode cX3_wholeOf 75 = .ok (.l2i, 1) := by decide +kernel
theorem dX3_wholeOf_76 : decode cX3_wholeOf 76 = .ok (.i2s, 1) := by decide +kernel
theorem dX3_wholeOf_77 : decode cX3_wholeOf 77 = .ok (.i2l, 1) := by decide +kernel
theorem dX3_wholeOf_78 : decode cX3_wholeOf 78 = .ok (.lreturn, 1) := by decide +kernel
theorem dX3_wholeOf_79 : decode cX3_wholeOf 79 = .ok (.lload_n 1, 1) := by decide +kernel
theorem dX3_wholeOf_80 : decode cX3_wholeOf 80 = .ok (.l2i, 1) := by decide +kernel
theorem dX3_wholeOf_81 : decode cX3_wholeOf 81 = .ok (.i2l, 1) := by decide +kernel
theorem dX3_wholeOf_82 : decode cX3_wholeOf 82 = .ok (.lreturn, 1) := by decide +kernel
theorem dX3_wholeOf_83 : decode cX3_wholeOf 83 = .ok (.lconst 0, 1) := by decide +kernel
theorem dX3_wholeOf_84 : decode cX3_wholeOf 84 = .ok (.lreturn, 1) := by decide +kernel
theorem dX3_wholeOf_85 : decode cX3_wholeOf 85 = .ok (.lload_n 1, 1) := by decide +kernel
theorem dX3_wholeOf_86 : decode cX3_wholeOf 86 = .ok (.ldc2_w 52, 3) := by decide +kernel
theorem dX3_wholeOf_89 : decode cX3_wholeOf 89 = .ok (.invokestatic 54, 3) := by decide +kernel
theorem dX3_wholeOf_92 : decode cX3_wholeOf 92 = .ok (.lreturn, 1) := by decide +kernel
theorem dX3_wholeOf_93 : decode cX3_wholeOf 93 = .ok (.lload_n 1, 1) := by decide +kernel
theorem dX3_wholeOf_94 : decode cX3_wholeOf 94 = .ok (.lreturn, 1) := by decide +kernel
theorem dX3_take_0 : decode cX3_take 0 = .ok (.aload_n 0, 1) := by decide +kernel
theorem dX3_take_1 : decode cX3_take 1 = .ok (.getfield 9, 3) := by decide +kernel
theorem dX3_take_4 : decode cX3_take 4 = .ok (.bipush 7, 2) := by decide +kernel
theorem dX3_take_6 : decode cX3_take 6 = .ok (.if_icmp .gt 10, 3) := by decide +kernel
theorem dX3_take_9 : decode cX3_take 9 = .ok (.aload_n 0, 1) := by decide +kernel
theorem dX3_take_10 : decode cX3_take 10 = .ok (.getfield 9, 3) := by decide +kernel
theorem dX3_take_13 : decode cX3_take 13 = .ok (.goto 9, 3) := by decide +kernel
theorem dX3_take_16 : decode cX3_take 16 = .ok (.aload_n 2, 1) := by decide +kernel
theorem dX3_take_17 : decode cX3_take 17 = .ok (.getfield 18, 3) := by decide +kernel
theorem dX3_take_20 : decode cX3_take 20 = .ok (.iload_n 3, 1) := by decide +kernel
theorem dX3_take_21 : decode cX3_take 21 = .ok (.iaload, 1) := by decide +kernel
theorem dX3_take_22 : decode cX3_take 22 = .ok (.istore 4, 2) := by decide +kernel
theorem dX3_take_24 : decode cX3_take 24 = .ok (.iload 4, 2) := by decide +kernel
theorem dX3_take_26 : decode cX3_take 26 = .ok (.invokestatic 60, 3) := by decide +kernel
theorem dX3_take_29 : decode cX3_take 29 = .ok (.ifCond .eq 20, 3) := by decide +kernel
theorem dX3_take_32 : decode cX3_take 32 = .ok (.aload_n 0, 1) := by decide +kernel
theorem dX3_take_33 : decode cX3_take 33 = .ok (.iload_n 1, 1) := by decide +kernel
theorem dX3_take_34 : decode cX3_take 34 = .ok (.iload 4, 2) := by decide +kernel
theorem dX3_take_36 : decode cX3_take 36 = .ok (.aload_n 2, 1) := by decide +kernel
theorem dX3_take_37 : decode cX3_take 37 = .ok (.iload_n 3, 1) := by decide +kernel
theorem dX3_take_38 : decode cX3_take 38 = .ok (.iload 4, 2) := by decide +kernel
theorem dX3_take_40 : decode cX3_take 40 = .ok (.invokevirtual 66, 3) := by decide +kernel
theorem dX3_take_43 : decode cX3_take 43 = .ok (.invokevirtual 38, 3) := by decide +kernel
theorem dX3_take_46 : decode cX3_take 46 = .ok (.goto 16, 3) := by decide +kernel
theorem dX3_take_49 : decode cX3_take 49 = .ok (.aload_n 0, 1) := by decide +kernel
theorem dX3_take_50 : decode cX3_take 50 = .ok (.iload_n 1, 1) := by decide +kernel
theorem dX3_take_51 : decode cX3_take 51 = .ok (.iload 4, 2) := by decide +kernel
theorem dX3_take_53 : decode cX3_take 53 = .ok (.aload_n 2, 1) := by decide +kernel
theorem dX3_take_54 : decode cX3_take 54 = .ok (.getfield 22, 3) := by decide +kernel
theorem dX3_take_57 : decode cX3_take 57 = .ok (.iload_n 3, 1) := by decide +kernel
theorem dX3_take_58 : decode cX3_take 58 = .ok (.laload, 1) := by decide +kernel
theorem dX3_take_59 : decode cX3_take 59 = .ok (.invokevirtual 48, 3) := by decide +kernel
theorem dX3_take_62 : decode cX3_take 62 = .ok (.return_, 1) := by decide +kernel
theorem dX3_realAs_0 : decode cX3_realAs 0 = .ok (.aload_n 0, 1) := by decide +kernel
theorem dX3_realAs_1 : decode cX3_realAs 1 = .ok (.getfield 18, 3) := by decide +kernel
theorem dX3_realAs_4 : decode cX3_realAs 4 = .ok (.iload_n 1, 1) := by decide +kernel
theorem dX3_realAs_5 : decode cX3_realAs 5 = .ok (.iaload, 1) := by decide +kernel
theorem dX3_realAs_6 : decode cX3_realAs 6 = .ok (.invokestatic 60, 3) := by decide +kernel
theorem dX3_realAs_9 : decode cX3_realAs 9 = .ok (.ifCond .eq 10, 3) := by decide +kernel
theorem dX3_realAs_12 : decode cX3_realAs 12 = .ok (.aload_n 0, 1) := by decide +kernel
theorem dX3_realAs_13 : decode cX3_realAs 13 = .ok (.getfield 26, 3) := by decide +kernel
theorem dX3_realAs_16 : decode cX3_realAs 16 = .ok (.iload_n 1, 1) := by decide +kernel
theorem dX3_realAs_17 : decode cX3_realAs 17 = .ok (.daload, 1) := by decide +kernel
theorem dX3_realAs_18 : decode cX3_realAs 18 = .ok (.dreturn, 1) := by decide +kernel
theorem dX3_realAs_19 : decode cX3_realAs 19 = .ok (.iload_n 2, 1) := by decide +kernel
theorem dX3_realAs_20 : decode cX3_realAs 20 = .ok (.bipush 6, 2) := by decide +kernel
theorem dX3_realAs_22 : decode cX3_realAs 22 = .ok (.if_icmp .ne 14, 3) := by decide +kernel
theorem dX3_realAs_25 : decode cX3_realAs 25 = .ok (.aload_n 0, 1) := by decide +kernel
theorem dX3_realAs_26 : decode cX3_realAs 26 = .ok (.getfield 22, 3) := by decide +kernel
theorem dX3_realAs_29 : decode cX3_realAs 29 = .ok (.iload_n 1, 1) := by decide +kernel
theorem dX3_realAs_30 : decode cX3_realAs 30 = .ok (.laload, 1) := by decide +kernel
theorem dX3_realAs_31 : decode cX3_realAs 31 = .ok (.l2f, 1) := by decide +kernel
theorem dX3_realAs_32 : decode cX3_realAs 32 = .ok (.f2d, 1) := by decide +kernel
theorem dX3_realAs_33 : decode cX3_realAs 33 = .ok (.goto 10, 3) := by decide +kernel
theorem dX3_realAs_36 : decode cX3_realAs 36 = .ok (.aload_n 0, 1) := by decide +kernel
theorem dX3_realAs_37 : decode cX3_realAs 37 = .ok (.getfield 22, 3) := by decide +kernel
theorem dX3_realAs_40 : decode cX3_realAs 40 = .ok (.iload_n 1, 1) := by decide +kernel
theorem dX3_realAs_41 : decode cX3_realAs 41 = .ok (.laload, 1) := by decide +kernel
theorem dX3_realAs_42 : decode cX3_realAs 42 = .ok (.l2d, 1) := by decide +kernel
theorem dX3_realAs_43 : decode cX3_realAs 43 = .ok (.dreturn, 1) := by decide +kernel
theorem dX3_amountAs_0 : decode cX3_amountAs 0 = .ok (.iload_n 2, 1) := by decide +kernel
theorem dX3_amountAs_1 : decode cX3_amountAs 1 = .ok (.bipush 6, 2) := by decide +kernel
theorem dX3_amountAs_3 : decode cX3_amountAs 3 = .ok (.if_icmp .ne 13, 3) := by decide +kernel
theorem dX3_amountAs_6 : decode cX3_amountAs 6 = .ok (.aload_n 0, 1) := by decide +kernel
theorem dX3_amountAs_7 : decode cX3_amountAs 7 = .ok (.iload_n 1, 1) := by decide +kernel
theorem dX3_amountAs_8 : decode cX3_amountAs 8 = .ok (.iload_n 2, 1) := by decide +kernel
theorem dX3_amountAs_9 : decode cX3_amountAs 9 = .ok (.invokevirtual 66, 3) := by decide +kernel
theorem dX3_amountAs_12 : decode cX3_amountAs 12 = .ok (.invokestatic 70, 3) := by decide +kernel
theorem dX3_amountAs_15 : decode cX3_amountAs 15 = .ok (.lreturn, 1) := by decide +kernel
theorem dX3_amountAs_16 : decode cX3_amountAs 16 = .ok (.iload_n 2, 1) := by decide +kernel
theorem dX3_amountAs_17 : decode cX3_amountAs 17 = .ok (.bipush 7, 2) := by decide +kernel
theorem dX3_amountAs_19 : decode cX3_amountAs 19 = .ok (.if_icmp .ne 15, 3) := by decide +kernel
theorem dX3_amountAs_22 : decode cX3_amountAs 22 = .ok (.aload_n 0, 1) := by decide +kernel
theorem dX3_amountAs_23 : decode cX3_amountAs 23 = .ok (.iload_n 1, 1) := by decide +kernel
theorem dX3_amountAs_24 : decode cX3_amountAs 24 = .ok (.iload_n 2, 1) := by decide +kernel
theorem dX3_amountAs_25 : decode cX3_amountAs 25 = .ok (.invokevirtual 66, 3) := by decide +kernel
theorem dX3_amountAs_28 : decode cX3_amountAs 28 = .ok (.invokestatic 76, 3) := by decide +kernel
theorem dX3_amountAs_31 : decode cX3_amountAs 31 = .ok (.goto 9, 3) := by decide +kernel
theorem dX3_amountAs_34 : decode cX3_amountAs 34 = .ok (.aload_n 0, 1) := by decide +kernel
theorem dX3_amountAs_35 : decode cX3_amountAs 35 = .ok (.getfield 22, 3) := by decide +kernel
theorem dX3_amountAs_38 : decode cX3_amountAs 38 = .ok (.iload_n 1, 1) := by decide +kernel
theorem dX3_amountAs_39 : decode cX3_amountAs 39 = .ok (.laload, 1) := by decide +kernel
theorem dX3_amountAs_40 : decode cX3_amountAs 40 = .ok (.lreturn, 1) := by decide +kernel
theorem dX3_falsify_0 : decode cX3_falsify 0 = .ok (.aload_n 0, 1) := by decide +kernel
theorem dX3_falsify_1 : decode cX3_falsify 1 = .ok (.getfield 18, 3) := by decide +kernel
theorem dX3_falsify_4 : decode cX3_falsify 4 = .ok (.iload_n 1, 1) := by decide +kernel
theorem dX3_falsify_5 : decode cX3_falsify 5 = .ok (.iaload, 1) := by decide +kernel
theorem dX3_falsify_6 : decode cX3_falsify 6 = .ok (.istore_n 2, 1) := by decide +kernel
theorem dX3_falsify_7 : decode cX3_falsify 7 = .ok (.iload_n 2, 1) := by decide +kernel
theorem dX3_falsify_8 : decode cX3_falsify 8 = .ok (.bipush 6, 2) := by decide +kernel
theorem dX3_falsify_10 : decode cX3_falsify 10 = .ok (.if_icmp .ne 22, 3) := by decide +kernel
theorem dX3_falsify_13 : decode cX3_falsify 13 = .ok (.aload_n 0, 1) := by decide +kernel
theorem dX3_falsify_14 : decode cX3_falsify 14 = .ok (.iload_n 1, 1) := by decide +kernel
theorem dX3_falsify_15 : decode cX3_falsify 15 = .ok (.iload_n 2, 1) := by decide +kernel
theorem dX3_falsify_16 : decode cX3_falsify 16 = .ok (.aload_n 0, 1) := by decide +kernel
theorem dX3_falsify_17 : decode cX3_falsify 17 = .ok (.getfield 26, 3) := by decide +kernel
theorem dX3_falsify_20 : decode cX3_falsify 20 = .ok (.iload_n 1, 1) := by decide +kernel
theorem dX3_falsify_21 : decode cX3_falsify 21 = .ok (.daload, 1) := by decide +kernel
theorem dX3_falsify_22 : decode cX3_falsify 22 = .ok (.d2f, 1) := by decide +kernel
theorem dX3_falsify_23 : decode cX3_falsify 23 = .ok (.fconst 1, 1) := by decide +kernel
theorem dX3_falsify_24 : decode cX3_falsify 24 = .ok (.fadd, 1) := by decide +kernel
theorem dX3_falsify_25 : decode cX3_falsify 25 = .ok (.f2d, 1) := by decide +kernel
theorem dX3_falsify_26 : decode cX3_falsify 26 = .ok (.invokevirtual 38, 3) := by decide +kernel
theorem dX3_falsify_29 : decode cX3_falsify 29 = .ok (.goto 44, 3) := by decide +kernel
theorem dX3_falsify_32 : decode cX3_falsify 32 = .ok (.iload_n 2, 1) := by decide +kernel
theorem dX3_falsify_33 : decode cX3_falsify 33 = .ok (.bipush 7, 2) := by decide +kernel
theorem dX3_falsify_35 : decode cX3_falsify 35 = .ok (.if_icmp .ne 20, 3) := by decide +kernel
theorem dX3_falsify_38 : decode cX3_falsify 38 = .ok (.aload_n 0, 1) := by decide +kernel
theorem dX3_falsify_39 : decode cX3_falsify 39 = .ok (.iload_n 1, 1) := by decide +kernel
theorem dX3_falsify_40 : decode cX3_falsify 40 = .ok (.iload_n 2, 1) := by decide +kernel
theorem dX3_falsify_41 : decode cX3_falsify 41 = .ok (.aload_n 0, 1) := by decide +kernel
theorem dX3_falsify_42 : decode cX3_falsify 42 = .ok (.getfield 26, 3) := by decide +kernel
theorem dX3_falsify_45 : decode cX3_falsify 45 = .ok (.iload_n 1, 1) := by decide +kernel
theorem dX3_falsify_46 : decode cX3_falsify 46 = .ok (.daload, 1) := by decide +kernel
theorem dX3_falsify_47 : decode cX3_falsify 47 = .ok (.dconst 1, 1) := by decide +kernel
theorem dX3_falsify_48 : decode cX3_falsify 48 = .ok (.dadd, 1) := by decide +kernel
theorem dX3_falsify_49 : decode cX3_falsify 49 = .ok (.invokevirtual 38, 3) := by decide +kernel
theorem dX3_falsify_52 : decode cX3_falsify 52 = .ok (.goto 21, 3) := by decide +kernel
theorem dX3_falsify_55 : decode cX3_falsify 55 = .ok (.aload_n 0, 1) := by decide +kernel
theorem dX3_falsify_56 : decode cX3_falsify 56 = .ok (.iload_n 1, 1) := by decide +kernel
theorem dX3_falsify_57 : decode cX3_falsify 57 = .ok (.iload_n 2, 1) := by decide +kernel
theorem dX3_falsify_58 : decode cX3_falsify 58 = .ok (.iload_n 2, 1) := by decide +kernel
theorem dX3_falsify_59 : decode cX3_falsify 59 = .ok (.aload_n 0, 1) := by decide +kernel
theorem dX3_falsify_60 : decode cX3_falsify 60 = .ok (.getfield 22, 3) := by decide +kernel
theorem dX3_falsify_63 : decode cX3_falsify 63 = .ok (.iload_n 1, 1) := by decide +kernel
theorem dX3_falsify_64 : decode cX3_falsify 64 = .ok (.laload, 1) := by decide +kernel
theorem dX3_falsify_65 : decode cX3_falsify 65 = .ok (.lconst 1, 1) := by decide +kernel
theorem dX3_falsify_66 : decode cX3_falsify 66 = .ok (.ladd, 1) := by decide +kernel
theorem dX3_falsify_67 : decode cX3_falsify 67 = .ok (.invokestatic 44, 3) := by decide +kernel
theorem dX3_falsify_70 : decode cX3_falsify 70 = .ok (.invokevirtual 48, 3) := by decide +kernel
theorem dX3_falsify_73 : decode cX3_falsify 73 = .ok (.return_, 1) := by decide +kernel
theorem dX3_total_0 : decode cX3_total 0 = .ok (.iload_n 1, 1) := by decide +kernel
theorem dX3_total_1 : decode cX3_total 1 = .ok (.bipush 6, 2) := by decide +kernel
theorem dX3_total_3 : decode cX3_total 3 = .ok (.if_icmp .ne 12, 3) := by decide +kernel
theorem dX3_total_6 : decode cX3_total 6 = .ok (.aload_n 0, 1) := by decide +kernel
theorem dX3_total_7 : decode cX3_total 7 = .ok (.invokevirtual 79, 3) := by decide +kernel
theorem dX3_total_10 : decode cX3_total 10 = .ok (.f2d, 1) := by decide +kernel
theorem dX3_total_11 : decode cX3_total 11 = .ok (.invokestatic 70, 3) := by decide +kernel
theorem dX3_total_14 : decode cX3_total 14 = .ok (.lreturn, 1) := by decide +kernel
theorem dX3_total_15 : decode cX3_total 15 = .ok (.iload_n 1, 1) := by decide +kernel
theorem dX3_total_16 : decode cX3_total 16 = .ok (.bipush 7, 2) := by decide +kernel
theorem dX3_total_18 : decode cX3_total 18 = .ok (.if_icmp .ne 13, 3) := by decide +kernel
theorem dX3_total_21 : decode cX3_total 21 = .ok (.aload_n 0, 1) := by decide +kernel
theorem dX3_total_22 : decode cX3_total 22 = .ok (.invokevirtual 83, 3) := by decide +kernel
theorem dX3_total_25 : decode cX3_total 25 = .ok (.invokestatic 76, 3) := by decide +kernel
theorem dX3_total_28 : decode cX3_total 28 = .ok (.goto 7, 3) := by decide +kernel
theorem dX3_total_31 : decode cX3_total 31 = .ok (.aload_n 0, 1) := by decide +kernel
theorem dX3_total_32 : decode cX3_total 32 = .ok (.invokevirtual 87, 3) := by decide +kernel
theorem dX3_total_35 : decode cX3_total 35 = .ok (.lreturn, 1) := by decide +kernel
theorem dX3_wholeTotal_0 : decode cX3_wholeTotal 0 = .ok (.lconst 0, 1) := by decide +kernel
theorem dX3_wholeTotal_1 : decode cX3_wholeTotal 1 = .ok (.lstore_n 1, 1) := by decide +kernel
theorem dX3_wholeTotal_2 : decode cX3_wholeTotal 2 = .ok (.iconst 0, 1) := by decide +kernel
theorem dX3_wholeTotal_3 : decode cX3_wholeTotal 3 = .ok (.istore_n 3, 1) := by decide +kernel
theorem dX3_wholeTotal_4 : decode cX3_wholeTotal 4 = .ok (.iload_n 3, 1) := by decide +kernel
theorem dX3_wholeTotal_5 : decode cX3_wholeTotal 5 = .ok (.aload_n 0, 1) := by decide +kernel
theorem dX3_wholeTotal_6 : decode cX3_wholeTotal 6 = .ok (.getfield 15, 3) := by decide +kernel
theorem dX3_wholeTotal_9 : decode cX3_wholeTotal 9 = .ok (.if_icmp .ge 18, 3) := by decide +kernel
theorem dX3_wholeTotal_12 : decode cX3_wholeTotal 12 = .ok (.lload_n 1, 1) := by decide +kernel
theorem dX3_wholeTotal_13 : decode cX3_wholeTotal 13 = .ok (.aload_n 0, 1) := by decide +kernel
theorem dX3_wholeTotal_14 : decode cX3_wholeTotal 14 = .ok (.getfield 22, 3) := by decide +kernel
theorem dX3_wholeTotal_17 : decode cX3_wholeTotal 17 = .ok (.iload_n 3, 1) := by decide +kernel
theorem dX3_wholeTotal_18 : decode cX3_wholeTotal 18 = .ok (.laload, 1) := by decide +kernel
theorem dX3_wholeTotal_19 : decode cX3_wholeTotal 19 = .ok (.ladd, 1) := by decide +kernel
theorem dX3_wholeTotal_20 : decode cX3_wholeTotal 20 = .ok (.lstore_n 1, 1) := by decide +kernel
theorem dX3_wholeTotal_21 : decode cX3_wholeTotal 21 = .ok (.iinc 3 1, 3) := by decide +kernel
theorem dX3_wholeTotal_24 : decode cX3_wholeTotal 24 = .ok (.goto (-20), 3) := by decide +kernel
theorem dX3_wholeTotal_27 : decode cX3_wholeTotal 27 = .ok (.lload_n 1, 1) := by decide +kernel
theorem dX3_wholeTotal_28 : decode cX3_wholeTotal 28 = .ok (.lreturn, 1) := by decide +kernel
theorem dX3_floatTotal_0 : decode cX3_floatTotal 0 = .ok (.fconst 0, 1) := by decide +kernel
theorem dX3_floatTotal_1 : decode cX3_floatTotal 1 = .ok (.fstore_n 1, 1) := by decide +kernel
theorem dX3_floatTotal_2 : decode cX3_floatTotal 2 = .ok (.iconst 0, 1) := by decide +kernel
theorem dX3_floatTotal_3 : decode cX3_floatTotal 3 = .ok (.istore_n 2, 1) := by decide +kernel
theorem dX3_floatTotal_4 : decode cX3_floatTotal 4 = .ok (.iload_n 2, 1) := by decide +kernel
theorem dX3_floatTotal_5 : decode cX3_floatTotal 5 = .ok (.aload_n 0, 1) := by decide +kernel
theorem dX3_floatTotal_6 : decode cX3_floatTotal 6 = .ok (.getfield 15, 3) := by decide +kernel
theorem dX3_floatTotal_9 : decode cX3_floatTotal 9 = .ok (.if_icmp .ge 20, 3) := by decide +kernel
theorem dX3_floatTotal_12 : decode cX3_floatTotal 12 = .ok (.fload_n 1, 1) := by decide +kernel
theorem dX3_floatTotal_13 : decode cX3_floatTotal 13 = .ok (.aload_n 0, 1) := by decide +kernel
theorem dX3_floatTotal_14 : decode cX3_floatTotal 14 = .ok (.iload_n 2, 1) := by decide +kernel
theorem dX3_floatTotal_15 : decode cX3_floatTotal 15 = .ok (.bipush 6, 2) := by decide +kernel
theorem dX3_floatTotal_17 : decode cX3_floatTotal 17 = .ok (.invokevirtual 66, 3) := by decide +kernel
theorem dX3_floatTotal_20 : decode cX3_floatTotal 20 = .ok (.d2f, 1) := by decide +kernel
theorem dX3_floatTotal_21 : decode cX3_floatTotal 21 = .ok (.fadd, 1) := by decide +kernel
theorem dX3_floatTotal_22 : decode cX3_floatTotal 22 = .ok (.fstore_n 1, 1) := by decide +kernel
theorem dX3_floatTotal_23 : decode cX3_floatTotal 23 = .ok (.iinc 2 1, 3) := by decide +kernel
theorem dX3_floatTotal_26 : decode cX3_floatTotal 26 = .ok (.goto (-22), 3) := by decide +kernel
theorem dX3_floatTotal_29 : decode cX3_floatTotal 29 = .ok (.fload_n 1, 1) := by decide +kernel
theorem dX3_floatTotal_30 : decode cX3_floatTotal 30 = .ok (.freturn, 1) := by decide +kernel
theorem dX3_doubleTotal_0 : decode cX3_doubleTotal 0 = .ok (.dconst 0, 1) := by decide +kernel
theorem dX3_doubleTotal_1 : decode cX3_doubleTotal 1 = .ok (.dstore_n 1, 1) := by decide +kernel
theorem dX3_doubleTotal_2 : decode cX3_doubleTotal 2 = .ok (.iconst 0, 1) := by decide +kernel
theorem dX3_doubleTotal_3 : decode cX3_doubleTotal 3 = .ok (.istore_n 3, 1) := by decide +kernel
theorem dX3_doubleTotal_4 : decode cX3_doubleTotal 4 = .ok (.iload_n 3, 1) := by decide +kernel
theorem dX3_doubleTotal_5 : decode cX3_doubleTotal 5 = .ok (.aload_n 0, 1) := by decide +kernel
theorem dX3_doubleTotal_6 : decode cX3_doubleTotal 6 = .ok (.getfield 15, 3) := by decide +kernel
theorem dX3_doubleTotal_9 : decode cX3_doubleTotal 9 = .ok (.if_icmp .ge 19, 3) := by decide +kernel
theorem dX3_doubleTotal_12 : decode cX3_doubleTotal 12 = .ok (.dload_n 1, 1) := by decide +kernel
theorem dX3_doubleTotal_13 : decode cX3_doubleTotal 13 = .ok (.aload_n 0, 1) := by decide +kernel
theorem dX3_doubleTotal_14 : decode cX3_doubleTotal 14 = .ok (.iload_n 3, 1) := by decide +kernel
theorem dX3_doubleTotal_15 : decode cX3_doubleTotal 15 = .ok (.bipush 7, 2) := by decide +kernel
theorem dX3_doubleTotal_17 : decode cX3_doubleTotal 17 = .ok (.invokevirtual 66, 3) := by decide +kernel
theorem dX3_doubleTotal_20 : decode cX3_doubleTotal 20 = .ok (.dadd, 1) := by decide +kernel
theorem dX3_doubleTotal_21 : decode cX3_doubleTotal 21 = .ok (.dstore_n 1, 1) := by decide +kernel
theorem dX3_doubleTotal_22 : decode cX3_doubleTotal 22 = .ok (.iinc 3 1, 3) := by decide +kernel
theorem dX3_doubleTotal_25 : decode cX3_doubleTotal 25 = .ok (.goto (-21), 3) := by decide +kernel
theorem dX3_doubleTotal_28 : decode cX3_doubleTotal 28 = .ok (.dload_n 1, 1) := by decide +kernel
theorem dX3_doubleTotal_29 : decode cX3_doubleTotal 29 = .ok (.dreturn, 1) := by decide +kernel
theorem dX3_setMean_0 : decode cX3_setMean 0 = .ok (.iload_n 2, 1) := by decide +kernel
theorem dX3_setMean_1 : decode cX3_setMean 1 = .ok (.bipush 6, 2) := by decide +kernel
theorem dX3_setMean_3 : decode cX3_setMean 3 = .ok (.if_icmp .ne 40, 3) := by decide +kernel
theorem dX3_setMean_6 : decode cX3_setMean 6 = .ok (.aload_n 3, 1) := by decide +kernel
theorem dX3_setMean_7 : decode cX3_setMean 7 = .ok (.iload 4, 2) := by decide +kernel
theorem dX3_setMean_9 : decode cX3_setMean 9 = .ok (.iload_n 2, 1) := by decide +kernel
theorem dX3_setMean_10 : decode cX3_setMean 10 = .ok (.invokevirtual 66, 3) := by decide +kernel
theorem dX3_setMean_13 : decode cX3_setMean 13 = .ok (.d2f, 1) := by decide +kernel
theorem dX3_setMean_14 : decode cX3_setMean 14 = .ok (.aload 5, 2) := by decide +kernel
theorem dX3_setMean_16 : decode cX3_setMean 16 = .ok (.iload 6, 2) := by decide +kernel
theorem dX3_setMean_18 : decode cX3_setMean 18 = .ok (.iload_n 2, 1) := by decide +kernel
theorem dX3_setMean_19 : decode cX3_setMean 19 = .ok (.invokevirtual 66, 3) := by decide +kernel
theorem dX3_setMean_22 : decode cX3_setMean 22 = .ok (.d2f, 1) := by decide +kernel
theorem dX3_setMean_23 : decode cX3_setMean 23 = .ok (.fadd, 1) := by decide +kernel
theorem dX3_setMean_24 : decode cX3_setMean 24 = .ok (.ldc 91, 2) := by decide +kernel
theorem dX3_setMean_26 : decode cX3_setMean 26 = .ok (.fmul, 1) := by decide +kernel
theorem dX3_setMean_27 : decode cX3_setMean 27 = .ok (.fconst 0, 1) := by decide +kernel
theorem dX3_setMean_28 : decode cX3_setMean 28 = .ok (.fadd, 1) := by decide +kernel
theorem dX3_setMean_29 : decode cX3_setMean 29 = .ok (.fstore 7, 2) := by decide +kernel
theorem dX3_setMean_31 : decode cX3_setMean 31 = .ok (.aload_n 0, 1) := by decide +kernel
theorem dX3_setMean_32 : decode cX3_setMean 32 = .ok (.iload_n 1, 1) := by decide +kernel
theorem dX3_setMean_33 : decode cX3_setMean 33 = .ok (.iload_n 2, 1) := by decide +kernel
theorem dX3_setMean_34 : decode cX3_setMean 34 = .ok (.fload 7, 2) := by decide +kernel
theorem dX3_setMean_36 : decode cX3_setMean 36 = .ok (.f2d, 1) := by decide +kernel
theorem dX3_setMean_37 : decode cX3_setMean 37 = .ok (.invokevirtual 38, 3) := by decide +kernel
theorem dX3_setMean_40 : decode cX3_setMean 40 = .ok (.goto 78, 3) := by decide +kernel
theorem dX3_setMean_43 : decode cX3_setMean 43 = .ok (.iload_n 2, 1) := by decide +kernel
theorem dX3_setMean_44 : decode cX3_setMean 44 = .ok (.bipush 7, 2) := by decide +kernel
theorem dX3_setMean_46 : decode cX3_setMean 46 = .ok (.if_icmp .ne 34, 3) := by decide +kernel
theorem dX3_setMean_49 : decode cX3_setMean 49 = .ok (.aload_n 0, 1) := by decide +kernel
theorem dX3_setMean_50 : decode cX3_setMean 50 = .ok (.iload_n 1, 1) := by decide +kernel
theorem dX3_setMean_51 : decode cX3_setMean 51 = .ok (.iload_n 2, 1) := by decide +kernel
theorem dX3_setMean_52 : decode cX3_setMean 52 = .ok (.aload_n 3, 1) := by decide +kernel
theorem dX3_setMean_53 : decode cX3_setMean 53 = .ok (.iload 4, 2) := by decide +kernel
theorem dX3_setMean_55 : decode cX3_setMean 55 = .ok (.iload_n 2, 1) := by decide +kernel
theorem dX3_setMean_56 : decode cX3_setMean 56 = .ok (.invokevirtual 66, 3) := by decide +kernel
theorem dX3_setMean_59 : decode cX3_setMean 59 = .ok (.aload 5, 2) := by decide +kernel
theorem dX3_setMean_61 : decode cX3_setMean 61 = .ok (.iload 6, 2) := by decide +kernel
theorem dX3_setMean_63 : decode cX3_setMean 63 = .ok (.iload_n 2, 1) := by decide +kernel
theorem dX3_setMean_64 : decode cX3_setMean 64 = .ok (.invokevirtual 66, 3) := by decide +kernel
theorem dX3_setMean_67 : decode cX3_setMean 67 = .ok (.dadd, 1) := by decide +kernel
theorem dX3_setMean_68 : decode cX3_setMean 68 = .ok (.ldc2_w 92, 3) := by decide +kernel
theorem dX3_setMean_71 : decode cX3_setMean 71 = .ok (.dmul, 1) := by decide +kernel
theorem dX3_setMean_72 : decode cX3_setMean 72 = .ok (.dconst 0, 1) := by decide +kernel
theorem dX3_setMean_73 : decode cX3_setMean 73 = .ok (.dadd, 1) := by decide +kernel
theorem dX3_setMean_74 : decode cX3_setMean 74 = .ok (.invokevirtual 38, 3) := by decide +kernel
theorem dX3_setMean_77 : decode cX3_setMean 77 = .ok (.goto 41, 3) := by decide +kernel
theorem dX3_setMean_80 : decode cX3_setMean 80 = .ok (.aload_n 3, 1) := by decide +kernel
theorem dX3_setMean_81 : decode cX3_setMean 81 = .ok (.getfield 22, 3) := by decide +kernel
theorem dX3_setMean_84 : decode cX3_setMean 84 = .ok (.iload 4, 2) := by decide +kernel
theorem dX3_setMean_86 : decode cX3_setMean 86 = .ok (.laload, 1) := by decide +kernel
theorem dX3_setMean_87 : decode cX3_setMean 87 = .ok (.lstore 7, 2) := by decide +kernel
theorem dX3_setMean_89 : decode cX3_setMean 89 = .ok (.aload 5, 2) := by decide +kernel
theorem dX3_setMean_91 : decode cX3_setMean 91 = .ok (.getfield 22, 3) := by decide +kernel
theorem dX3_setMean_94 : decode cX3_setMean 94 = .ok (.iload 6, 2) := by decide +kernel
theorem dX3_setMean_96 : decode cX3_setMean 96 = .ok (.laload, 1) := by decide +kernel
theorem dX3_setMean_97 : decode cX3_setMean 97 = .ok (.lstore 9, 2) := by decide +kernel
theorem dX3_setMean_99 : decode cX3_setMean 99 = .ok (.aload_n 0, 1) := by decide +kernel
theorem dX3_setMean_100 : decode cX3_setMean 100 = .ok (.iload_n 1, 1) := by decide +kernel
theorem dX3_setMean_101 : decode cX3_setMean 101 = .ok (.iload_n 2, 1) := by decide +kernel
theorem dX3_setMean_102 : decode cX3_setMean 102 = .ok (.lload 7, 2) := by decide +kernel
theorem dX3_setMean_104 : decode cX3_setMean 104 = .ok (.lload 9, 2) := by decide +kernel
theorem dX3_setMean_106 : decode cX3_setMean 106 = .ok (.land, 1) := by decide +kernel
theorem dX3_setMean_107 : decode cX3_setMean 107 = .ok (.lload 7, 2) := by decide +kernel
theorem dX3_setMean_109 : decode cX3_setMean 109 = .ok (.lload 9, 2) := by decide +kernel
theorem dX3_setMean_111 : decode cX3_setMean 111 = .ok (.lxor, 1) := by decide +kernel
theorem dX3_setMean_112 : decode cX3_setMean 112 = .ok (.iconst 1, 1) := by decide +kernel
theorem dX3_setMean_113 : decode cX3_setMean 113 = .ok (.lshr, 1) := by decide +kernel
theorem dX3_setMean_114 : decode cX3_setMean 114 = .ok (.ladd, 1) := by decide +kernel
theorem dX3_setMean_115 : decode cX3_setMean 115 = .ok (.invokevirtual 48, 3) := by decide +kernel
theorem dX3_setMean_118 : decode cX3_setMean 118 = .ok (.return_, 1) := by decide +kernel
theorem dX3_isDuplicate_0 : decode cX3_isDuplicate 0 = .ok (.iload_n 1, 1) := by decide +kernel
theorem dX3_isDuplicate_1 : decode cX3_isDuplicate 1 = .ok (.ifCond .le 20, 3) := by decide +kernel
theorem dX3_isDuplicate_4 : decode cX3_isDuplicate 4 = .ok (.aload_n 0, 1) := by decide +kernel
theorem dX3_isDuplicate_5 : decode cX3_isDuplicate 5 = .ok (.iload_n 1, 1) := by decide +kernel
theorem dX3_isDuplicate_6 : decode cX3_isDuplicate 6 = .ok (.aload_n 0, 1) := by decide +kernel
theorem dX3_isDuplicate_7 : decode cX3_isDuplicate 7 = .ok (.iload_n 1, 1) := by decide +kernel
theorem dX3_isDuplicate_8 : decode cX3_isDuplicate 8 = .ok (.iconst 1, 1) := by decide +kernel
theorem dX3_isDuplicate_9 : decode cX3_isDuplicate 9 = .ok (.isub, 1) := by decide +kernel
theorem dX3_isDuplicate_10 : decode cX3_isDuplicate 10 = .ok (.iconst 0, 1) := by decide +kernel
theorem dX3_isDuplicate_11 : decode cX3_isDuplicate 11 = .ok (.invokestatic 94, 3) := by decide +kernel
theorem dX3_isDuplicate_14 : decode cX3_isDuplicate 14 = .ok (.ifCond .ne 7, 3) := by decide +kernel
theorem dX3_isDuplicate_17 : decode cX3_isDuplicate 17 = .ok (.iconst 1, 1) := by decide +kernel
theorem dX3_isDuplicate_18 : decode cX3_isDuplicate 18 = .ok (.goto 4, 3) := by decide +kernel
theorem dX3_isDuplicate_21 : decode cX3_isDuplicate 21 = .ok (.iconst 0, 1) := by decide +kernel
theorem dX3_isDuplicate_22 : decode cX3_isDuplicate 22 = .ok (.ireturn, 1) := by decide +kernel
theorem dX3_nulls_0 : decode cX3_nulls 0 = .ok (.iconst 0, 1) := by decide +kernel
theorem dX3_nulls_1 : decode cX3_nulls 1 = .ok (.istore_n 1, 1) := by decide +kernel
theorem dX3_nulls_2 : decode cX3_nulls 2 = .ok (.iconst 0, 1) := by decide +kernel
theorem dX3_nulls_3 : decode cX3_nulls 3 = .ok (.istore_n 2, 1) := by decide +kernel
theorem dX3_nulls_4 : decode cX3_nulls 4 = .ok (.iload_n 2, 1) := by decide +kernel
theorem dX3_nulls_5 : decode cX3_nulls 5 = .ok (.aload_n 0, 1) := by decide +kernel
theorem dX3_nulls_6 : decode cX3_nulls 6 = .ok (.getfield 15, 3) := by decide +kernel
theorem dX3_nulls_9 : decode cX3_nulls 9 = .ok (.if_icmp .ge 23, 3) := by decide +kernel
theorem dX3_nulls_12 : decode cX3_nulls 12 = .ok (.aload_n 0, 1) := by decide +kernel
theorem dX3_nulls_13 : decode cX3_nulls 13 = .ok (.getfield 18, 3) := by decide +kernel
theorem dX3_nulls_16 : decode cX3_nulls 16 = .ok (.iload_n 2, 1) := by decide +kernel
theorem dX3_nulls_17 : decode cX3_nulls 17 = .ok (.iaload, 1) := by decide +kernel
theorem dX3_nulls_18 : decode cX3_nulls 18 = .ok (.bipush 9, 2) := by decide +kernel
theorem dX3_nulls_20 : decode cX3_nulls 20 = .ok (.if_icmp .ne 6, 3) := by decide +kernel
theorem dX3_nulls_23 : decode cX3_nulls 23 = .ok (.iinc 1 1, 3) := by decide +kernel
theorem dX3_nulls_26 : decode cX3_nulls 26 = .ok (.iinc 2 1, 3) := by decide +kernel
theorem dX3_nulls_29 : decode cX3_nulls 29 = .ok (.goto (-25), 3) := by decide +kernel
theorem dX3_nulls_32 : decode cX3_nulls 32 = .ok (.iload_n 1, 1) := by decide +kernel
theorem dX3_nulls_33 : decode cX3_nulls 33 = .ok (.ireturn, 1) := by decide +kernel
theorem dX4_init_0 : decode cX4_init 0 = .ok (.aload_n 0, 1) := by decide +kernel
theorem dX4_init_1 : decode cX4_init 1 = .ok (.invokespecial 3, 3) := by decide +kernel
theorem dX4_init_4 : decode cX4_init 4 = .ok (.aload_n 0, 1) := by decide +kernel
theorem dX4_init_5 : decode cX4_init 5 = .ok (.aload_n 1, 1) := by decide +kernel
theorem dX4_init_6 : decode cX4_init 6 = .ok (.putfield 9, 3) := by decide +kernel
theorem dX4_init_9 : decode cX4_init 9 = .ok (.aload_n 0, 1) := by decide +kernel
theorem dX4_init_10 : decode cX4_init 10 = .ok (.aload_n 2, 1) := by decide +kernel
theorem dX4_init_11 : decode cX4_init 11 = .ok (.putfield 15, 3) := by decide +kernel
theorem dX4_init_14 : decode cX4_init 14 = .ok (.aload_n 0, 1) := by decide +kernel
theorem dX4_init_15 : decode cX4_init 15 = .ok (.iload_n 3, 1) := by decide +kernel
theorem dX4_init_16 : decode cX4_init 16 = .ok (.putfield 18, 3) := by decide +kernel
theorem dX4_init_19 : decode cX4_init 19 = .ok (.aload_n 1, 1) := by decide +kernel
theorem dX4_init_20 : decode cX4_init 20 = .ok (.getfield 22, 3) := by decide +kernel
theorem dX4_init_23 : decode cX4_init 23 = .ok (.aload_n 2, 1) := by decide +kernel
theorem dX4_init_24 : decode cX4_init 24 = .ok (.getfield 22, 3) := by decide +kernel
theorem dX4_init_27 : decode cX4_init 27 = .ok (.iadd, 1) := by decide +kernel
theorem dX4_init_28 : decode cX4_init 28 = .ok (.istore 4, 2) := by decide +kernel
theorem dX4_init_30 : decode cX4_init 30 = .ok (.aload_n 0, 1) := by decide +kernel
theorem dX4_init_31 : decode cX4_init 31 = .ok (.iload 4, 2) := by decide +kernel
theorem dX4_init_33 : decode cX4_init 33 = .ok (.newarray .int, 2) := by decide +kernel
theorem dX4_init_35 : decode cX4_init 35 = .ok (.putfield 27, 3) := by decide +kernel
theorem dX4_init_38 : decode cX4_init 38 = .ok (.aload_n 0, 1) := by decide +kernel
theorem dX4_init_39 : decode cX4_init 39 = .ok (.iload 4, 2) := by decide +kernel
theorem dX4_init_41 : decode cX4_init 41 = .ok (.newarray .int, 2) := by decide +kernel
theorem dX4_init_43 : decode cX4_init 43 = .ok (.putfield 31, 3) := by decide +kernel
theorem dX4_init_46 : decode cX4_init 46 = .ok (.aload_n 0, 1) := by decide +kernel
theorem dX4_init_47 : decode cX4_init 47 = .ok (.iload 4, 2) := by decide +kernel
theorem dX4_init_49 : decode cX4_init 49 = .ok (.newarray .int, 2) := by decide +kernel
theorem dX4_init_51 : decode cX4_init 51 = .ok (.putfield 34, 3) := by decide +kernel
theorem dX4_init_54 : decode cX4_init 54 = .ok (.aload_n 0, 1) := by decide +kernel
theorem dX4_init_55 : decode cX4_init 55 = .ok (.iload 4, 2) := by decide +kernel
theorem dX4_init_57 : decode cX4_init 57 = .ok (.newarray .int, 2) := by decide +kernel
theorem dX4_init_59 : decode cX4_init 59 = .ok (.putfield 37, 3) := by decide +kernel
theorem dX4_init_62 : decode cX4_init 62 = .ok (.aload_n 0, 1) := by decide +kernel
theorem dX4_init_63 : decode cX4_init 63 = .ok (.iload 4, 2) := by decide +kernel
theorem dX4_init_65 : decode cX4_init 65 = .ok (.newarray .int, 2) := by decide +kernel
theorem dX4_init_67 : decode cX4_init 67 = .ok (.putfield 40, 3) := by decide +kernel
theorem dX4_init_70 : decode cX4_init 70 = .ok (.return_, 1) := by decide +kernel
theorem dX4_add_0 : decode cX4_add 0 = .ok (.aload_n 0, 1) := by decide +kernel
theorem dX4_add_1 : decode cX4_add 1 = .ok (.getfield 27, 3) := by decide +kernel
theorem dX4_add_4 : decode cX4_add 4 = .ok (.aload_n 0, 1) := by decide +kernel
theorem dX4_add_5 : decode cX4_add 5 = .ok (.getfield 43, 3) := by decide +kernel
theorem dX4_add_8 : decode cX4_add 8 = .ok (.iload_n 1, 1) := by decide +kernel
theorem dX4_add_9 : decode cX4_add 9 = .ok (.iastore, 1) := by decide +kernel
theorem dX4_add_10 : decode cX4_add 10 = .ok (.aload_n 0, 1) := by decide +kernel
theorem dX4_add_11 : decode cX4_add 11 = .ok (.getfield 31, 3) := by decide +kernel
theorem dX4_add_14 : decode cX4_add 14 = .ok (.aload_n 0, 1) := by decide +kernel
theorem dX4_add_15 : decode cX4_add 15 = .ok (.getfield 43, 3) := by decide +kernel
theorem dX4_add_18 : decode cX4_add 18 = .ok (.iload_n 2, 1) := by decide +kernel
theorem dX4_add_19 : decode cX4_add 19 = .ok (.iastore, 1) := by decide +kernel
theorem dX4_add_20 : decode cX4_add 20 = .ok (.aload_n 0, 1) := by decide +kernel
theorem dX4_add_21 : decode cX4_add 21 = .ok (.getfield 34, 3) := by decide +kernel
theorem dX4_add_24 : decode cX4_add 24 = .ok (.aload_n 0, 1) := by decide +kernel
theorem dX4_add_25 : decode cX4_add 25 = .ok (.getfield 43, 3) := by decide +kernel
theorem dX4_add_28 : decode cX4_add 28 = .ok (.iload_n 3, 1) := by decide +kernel
theorem dX4_add_29 : decode cX4_add 29 = .ok (.iastore, 1) := by decide +kernel
theorem dX4_add_30 : decode cX4_add 30 = .ok (.aload_n 0, 1) := by decide +kernel
theorem dX4_add_31 : decode cX4_add 31 = .ok (.getfield 37, 3) := by decide +kernel
theorem dX4_add_34 : decode cX4_add 34 = .ok (.aload_n 0, 1) := by decide +kernel
theorem dX4_add_35 : decode cX4_add 35 = .ok (.getfield 43, 3) := by decide +kernel
theorem dX4_add_38 : decode cX4_add 38 = .ok (.iload 4, 2) := by decide +kernel
theorem dX4_add_40 : decode cX4_add 40 = .ok (.iastore, 1) := by decide +kernel
theorem dX4_add_41 : decode cX4_add 41 = .ok (.aload_n 0, 1) := by decide +kernel
theorem dX4_add_42 : decode cX4_add 42 = .ok (.getfield 40, 3) := by decide +kernel
theorem dX4_add_45 : decode cX4_add 45 = .ok (.aload_n 0, 1) := by decide +kernel
theorem dX4_add_46 : decode cX4_add 46 = .ok (.getfield 43, 3) := by decide +kernel
theorem dX4_add_49 : decode cX4_add 49 = .ok (.iload 5, 2) := by decide +kernel
theorem dX4_add_51 : decode cX4_add 51 = .ok (.iastore, 1) := by decide +kernel
theorem dX4_add_52 : decode cX4_add 52 = .ok (.aload_n 0, 1) := by decide +kernel
theorem dX4_add_53 : decode cX4_add 53 = .ok (.dup, 1) := by decide +kernel
theorem dX4_add_54 : decode cX4_add 54 = .ok (.getfield 43, 3) := by decide +kernel
theorem dX4_add_57 : decode cX4_add 57 = .ok (.iconst 1, 1) := by decide +kernel
theorem dX4_add_58 : decode cX4_add 58 = .ok (.iadd, 1) := by decide +kernel
theorem dX4_add_59 : decode cX4_add 59 = .ok (.putfield 43, 3) := by decide +kernel
theorem dX4_add_62 : decode cX4_add 62 = .ok (.return_, 1) := by decide +kernel
theorem dX4_hasLeft_0 : decode cX4_hasLeft 0 = .ok (.aload_n 0, 1) := by decide +kernel
theorem dX4_hasLeft_1 : decode cX4_hasLeft 1 = .ok (.getfield 27, 3) := by decide +kernel
theorem dX4_hasLeft_4 : decode cX4_hasLeft 4 = .ok (.iload_n 1, 1) := by decide +kernel
theorem dX4_hasLeft_5 : decode cX4_hasLeft 5 = .ok (.iaload, 1) := by decide +kernel
theorem dX4_hasLeft_6 : decode cX4_hasLeft 6 = .ok (.iconst 2, 1) := by decide +kernel
theorem dX4_hasLeft_7 : decode cX4_hasLeft 7 = .ok (.if_icmp .eq 7, 3) := by decide +kernel
theorem dX4_hasLeft_10 : decode cX4_hasLeft 10 = .ok (.iconst 1, 1) := by decide +kernel
theorem dX4_hasLeft_11 : decode cX4_hasLeft 11 = .ok (.goto 4, 3) := by decide +kernel
theorem dX4_hasLeft_14 : decode cX4_hasLeft 14 = .ok (.iconst 0, 1) := by decide +kernel
theorem dX4_hasLeft_15 : decode cX4_hasLeft 15 = .ok (.ireturn, 1) := by decide +kernel
theorem dX4_hasRight_0 : decode cX4_hasRight 0 = .ok (.aload_n 0, 1) := by decide +kernel
theorem dX4_hasRight_1 : decode cX4_hasRight 1 = .ok (.getfield 27, 3) := by decide +kernel
theorem dX4_hasRight_4 : decode cX4_hasRight 4 = .ok (.iload_n 1, 1) := by decide +kernel
theorem dX4_hasRight_5 : decode cX4_hasRight 5 = .ok (.iaload, 1) := by decide +kernel
theorem dX4_hasRight_6 : decode cX4_hasRight 6 = .ok (.iconst 1, 1) := by decide +kernel
theorem dX4_hasRight_7 : decode cX4_hasRight 7 = .ok (.if_icmp .eq 7, 3) := by decide +kernel
theorem dX4_hasRight_10 : decode cX4_hasRight 10 = .ok (.iconst 1, 1) := by decide +kernel
theorem dX4_hasRight_11 : decode cX4_hasRight 11 = .ok (.goto 4, 3) := by decide +kernel
theorem dX4_hasRight_14 : decode cX4_hasRight 14 = .ok (.iconst 0, 1) := by decide +kernel
theorem dX4_hasRight_15 : decode cX4_hasRight 15 = .ok (.ireturn, 1) := by decide +kernel
theorem dX4_stepsOf_0 : decode cX4_stepsOf 0 = .ok (.iconst 0, 1) := by decide +kernel
theorem dX4_stepsOf_1 : decode cX4_stepsOf 1 = .ok (.istore_n 2, 1) := by decide +kernel
theorem dX4_stepsOf_2 : decode cX4_stepsOf 2 = .ok (.iconst 0, 1) := by decide +kernel
theorem dX4_stepsOf_3 : decode cX4_stepsOf 3 = .ok (.istore_n 3, 1) := by decide +kernel
theorem dX4_stepsOf_4 : decode cX4_stepsOf 4 = .ok (.iload_n 3, 1) := by decide +kernel
theorem dX4_stepsOf_5 : decode cX4_stepsOf 5 = .ok (.aload_n 0, 1) := by decide +kernel
theorem dX4_stepsOf_6 : decode cX4_stepsOf 6 = .ok (.getfield 43, 3) := by decide +kernel
theorem dX4_stepsOf_9 : decode cX4_stepsOf 9 = .ok (.if_icmp .ge 22, 3) := by decide +kernel
theorem dX4_stepsOf_12 : decode cX4_stepsOf 12 = .ok (.aload_n 0, 1) := by decide +kernel
theorem dX4_stepsOf_13 : decode cX4_stepsOf 13 = .ok (.getfield 27, 3) := by decide +kernel
theorem dX4_stepsOf_16 : decode cX4_stepsOf 16 = .ok (.iload_n 3, 1) := by decide +kernel
theorem dX4_stepsOf_17 : decode cX4_stepsOf 17 = .ok (.iaload, 1) := by decide +kernel
theorem dX4_stepsOf_18 : decode cX4_stepsOf 18 = .ok (.iload_n 1, 1) := by decide +kernel
theorem dX4_stepsOf_19 : decode cX4_stepsOf 19 = .ok (.if_icmp .ne 6, 3) := by decide +kernel
theorem dX4_stepsOf_22 : decode cX4_stepsOf 22 = .ok (.iinc 2 1, 3) := by decide +kernel
theorem dX4_stepsOf_25 : decode cX4_stepsOf 25 = .ok (.iinc 3 1, 3) := by decide +kernel
theorem dX4_stepsOf_28 : decode cX4_stepsOf 28 = .ok (.goto (-24), 3) := by decide +kernel
theorem dX4_stepsOf_31 : decode cX4_stepsOf 31 = .ok (.iload_n 2, 1) := by decide +kernel
theorem dX4_stepsOf_32 : decode cX4_stepsOf 32 = .ok (.ireturn, 1) := by decide +kernel
theorem dX4_verdictsOf_0 : decode cX4_verdictsOf 0 = .ok (.iconst 0, 1) := by decide +kernel
theorem dX4_verdictsOf_1 : decode cX4_verdictsOf 1 = .ok (.istore_n 2, 1) := by decide +kernel
theorem dX4_verdictsOf_2 : decode cX4_verdictsOf 2 = .ok (.iconst 0, 1) := by decide +kernel
theorem dX4_verdictsOf_3 : decode cX4_verdictsOf 3 = .ok (.istore_n 3, 1) := by decide +kernel
theorem dX4_verdictsOf_4 : decode cX4_verdictsOf 4 = .ok (.iload_n 3, 1) := by decide +kernel
theorem dX4_verdictsOf_5 : decode cX4_verdictsOf 5 = .ok (.aload_n 0, 1) := by decide +kernel
theorem dX4_verdictsOf_6 : decode cX4_verdictsOf 6 = .ok (.getfield 43, 3) := by decide +kernel
theorem dX4_verdictsOf_9 : decode cX4_verdictsOf 9 = .ok (.if_icmp .ge 22, 3) := by decide +kernel
theorem dX4_verdictsOf_12 : decode cX4_verdictsOf 12 = .ok (.aload_n 0, 1) := by decide +kernel
theorem dX4_verdictsOf_13 : decode cX4_verdictsOf 13 = .ok (.getfield 37, 3) := by decide +kernel
theorem dX4_verdictsOf_16 : decode cX4_verdictsOf 16 = .ok (.iload_n 3, 1) := by decide +kernel
theorem dX4_verdictsOf_17 : decode cX4_verdictsOf 17 = .ok (.iaload, 1) := by decide +kernel
theorem dX4_verdictsOf_18 : decode cX4_verdictsOf 18 = .ok (.iload_n 1, 1) := by decide +kernel
theorem dX4_verdictsOf_19 : decode cX4_verdictsOf 19 = .ok (.if_icmp .ne 6, 3) := by decide +kernel
theorem dX4_verdictsOf_22 : decode cX4_verdictsOf 22 = .ok (.iinc 2 1, 3) := by decide +kernel
theorem dX4_verdictsOf_25 : decode cX4_verdictsOf 25 = .ok (.iinc 3 1, 3) := by decide +kernel
theorem dX4_verdictsOf_28 : decode cX4_verdictsOf 28 = .ok (.goto (-24), 3) := by decide +kernel
theorem dX4_verdictsOf_31 : decode cX4_verdictsOf 31 = .ok (.iload_n 2, 1) := by decide +kernel
theorem dX4_verdictsOf_32 : decode cX4_verdictsOf 32 = .ok (.ireturn, 1) := by decide +kernel
theorem dX4_mergedKind_0 : decode cX4_mergedKind 0 = .ok (.aload_n 0, 1) := by decide +kernel
theorem dX4_mergedKind_1 : decode cX4_mergedKind 1 = .ok (.getfield 9, 3) := by decide +kernel
theorem dX4_mergedKind_4 : decode cX4_mergedKind 4 = .ok (.getfield 46, 3) := by decide +kernel
theorem dX4_mergedKind_7 : decode cX4_mergedKind 7 = .ok (.bipush 7, 2) := by decide +kernel
theorem dX4_mergedKind_9 : decode cX4_mergedKind 9 = .ok (.if_icmp .gt 15, 3) := by decide +kernel
theorem dX4_mergedKind_12 : decode cX4_mergedKind 12 = .ok (.aload_n 0, 1) := by decide +kernel
theorem dX4_mergedKind_13 : decode cX4_mergedKind 13 = .ok (.getfield 15, 3) := by decide +kernel
theorem dX4_mergedKind_16 : decode cX4_mergedKind 16 = .ok (.getfield 46, 3) := by decide +kernel
theorem dX4_mergedKind_19 : decode cX4_mergedKind 19 = .ok (.bipush 7, 2) := by decide +kernel
theorem dX4_mergedKind_21 : decode cX4_mergedKind 21 = .ok (.if_icmp .le 33, 3) := by decide +kernel
theorem dX4_mergedKind_24 : decode cX4_mergedKind 24 = .ok (.aload_n 0, 1) := by decide +kernel
theorem dX4_mergedKind_25 : decode cX4_mergedKind 25 = .ok (.getfield 9, 3) := by decide +kernel
theorem dX4_mergedKind_28 : decode cX4_mergedKind 28 = .ok (.getfield 46, 3) := by decide +kernel
theorem dX4_mergedKind_31 : decode cX4_mergedKind 31 = .ok (.aload_n 0, 1) := by decide +kernel
theorem dX4_mergedKind_32 : decode cX4_mergedKind 32 = .ok (.getfield 15, 3) := by decide +kernel
theorem dX4_mergedKind_35 : decode cX4_mergedKind 35 = .ok (.getfield 46, 3) := by decide +kernel
theorem dX4_mergedKind_38 : decode cX4_mergedKind 38 = .ok (.if_icmp .ne 13, 3) := by decide +kernel
theorem dX4_mergedKind_41 : decode cX4_mergedKind 41 = .ok (.aload_n 0, 1) := by decide +kernel
theorem dX4_mergedKind_42 : decode cX4_mergedKind 42 = .ok (.getfield 9, 3) := by decide +kernel
theorem dX4_mergedKind_45 : decode cX4_mergedKind 45 = .ok (.getfield 46, 3) := by decide +kernel
theorem dX4_mergedKind_48 : decode cX4_mergedKind 48 = .ok (.goto 5, 3) := by decide +kernel
theorem dX4_mergedKind_51 : decode cX4_mergedKind 51 = .ok (.bipush 9, 2) := by decide +kernel
theorem dX4_mergedKind_53 : decode cX4_mergedKind 53 = .ok (.ireturn, 1) := by decide +kernel
theorem dX4_mergedKind_54 : decode cX4_mergedKind 54 = .ok (.aload_n 0, 1) := by decide +kernel
theorem dX4_mergedKind_55 : decode cX4_mergedKind 55 = .ok (.getfield 9, 3) := by decide +kernel
theorem dX4_mergedKind_58 : decode cX4_mergedKind 58 = .ok (.getfield 46, 3) := by decide +kernel
theorem dX4_mergedKind_61 : decode cX4_mergedKind 61 = .ok (.aload_n 0, 1) := by decide +kernel
theorem dX4_mergedKind_62 : decode cX4_mergedKind 62 = .ok (.getfield 15, 3) := by decide +kernel
theorem dX4_mergedKind_65 : decode cX4_mergedKind 65 = .ok (.getfield 46, 3) := by decide +kernel
theorem dX4_mergedKind_68 : decode cX4_mergedKind 68 = .ok (.invokestatic 49, 3) := by decide +kernel
theorem dX4_mergedKind_71 : decode cX4_mergedKind 71 = .ok (.istore_n 1, 1) := by decide +kernel
theorem dX4_mergedKind_72 : decode cX4_mergedKind 72 = .ok (.iload_n 1, 1) := by decide +kernel
theorem dX4_mergedKind_73 : decode cX4_mergedKind 73 = .ok (.iconst (-1), 1) := by decide +kernel
theorem dX4_mergedKind_74 : decode cX4_mergedKind 74 = .ok (.if_icmp .ne 8, 3) := by decide +kernel
theorem dX4_mergedKind_77 : decode cX4_mergedKind 77 = .ok (.bipush 9, 2) := by decide +kernel
theorem dX4_mergedKind_79 : decode cX4_mergedKind 79 = .ok (.goto 4, 3) := by decide +kernel
theorem dX4_mergedKind_82 : decode cX4_mergedKind 82 = .ok (.iload_n 1, 1) := by decide +kernel
theorem dX4_mergedKind_83 : decode cX4_mergedKind 83 = .ok (.ireturn, 1) := by decide +kernel
theorem dX4_mergedLength_0 : decode cX4_mergedLength 0 = .ok (.aload_n 0, 1) := by decide +kernel
theorem dX4_mergedLength_1 : decode cX4_mergedLength 1 = .ok (.getfield 43, 3) := by decide +kernel
theorem dX4_mergedLength_4 : decode cX4_mergedLength 4 = .ok (.aload_n 0, 1) := by decide +kernel
theorem dX4_mergedLength_5 : decode cX4_mergedLength 5 = .ok (.iconst 4, 1) := by decide +kernel
theorem dX4_mergedLength_6 : decode cX4_mergedLength 6 = .ok (.invokevirtual 55, 3) := by decide +kernel
theorem dX4_mergedLength_9 : decode cX4_mergedLength 9 = .ok (.isub, 1) := by decide +kernel
theorem dX4_mergedLength_10 : decode cX4_mergedLength 10 = .ok (.ireturn, 1) := by decide +kernel
theorem dX4_merged_0 : decode cX4_merged 0 = .ok (.new 23, 3) := by decide +kernel
theorem dX4_merged_3 : decode cX4_merged 3 = .ok (.dup, 1) := by decide +kernel
theorem dX4_merged_4 : decode cX4_merged 4 = .ok (.aload_n 0, 1) := by decide +kernel
theorem dX4_merged_5 : decode cX4_merged 5 = .ok (.invokevirtual 59, 3) := by decide +kernel
theorem dX4_merged_8 : decode cX4_merged 8 = .ok (.aload_n 0, 1) := by decide +kernel
theorem dX4_merged_9 : decode cX4_merged 9 = .ok (.invokevirtual 63, 3) := by decide +kernel
theorem dX4_merged_12 : decode cX4_merged 12 = .ok (.invokespecial 66, 3) := by decide +kernel
theorem dX4_merged_15 : decode cX4_merged 15 = .ok (.astore_n 2, 1) := by decide +kernel
theorem dX4_merged_16 : decode cX4_merged 16 = .ok (.iconst 0, 1) := by decide +kernel
theorem dX4_merged_17 : decode cX4_merged 17 = .ok (.istore_n 3, 1) := by decide +kernel
theorem dX4_merged_18 : decode cX4_merged 18 = .ok (.iconst 0, 1) := by decide +kernel
theorem dX4_merged_19 : decode cX4_merged 19 = .ok (.istore 4, 2) := by decide +kernel
theorem dX4_merged_21 : decode cX4_merged 21 = .ok (.iload 4, 2) := by decide +kernel
theorem dX4_merged_23 : decode cX4_merged 23 = .ok (.aload_n 0, 1) := by decide +kernel
theorem dX4_merged_24 : decode cX4_merged 24 = .ok (.getfield 43, 3) := by decide +kernel
theorem dX4_merged_27 : decode cX4_merged 27 = .ok (.if_icmp .ge 131, 3) := by decide +kernel
theorem dX4_merged_30 : decode cX4_merged 30 = .ok (.iload_n 3, 1) := by decide +kernel
theorem dX4_merged_31 : decode cX4_merged 31 = .ok (.aload_n 2, 1) := by decide +kernel
theorem dX4_merged_32 : decode cX4_merged 32 = .ok (.getfield 22, 3) := by decide +kernel
theorem dX4_merged_35 : decode cX4_merged 35 = .ok (.if_icmp .ge 123, 3) := by decide +kernel
theorem dX4_merged_38 : decode cX4_merged 38 = .ok (.aload_n 0, 1) := by decide +kernel
theorem dX4_merged_39 : decode cX4_merged 39 = .ok (.getfield 37, 3) := by decide +kernel
theorem dX4_merged_42 : decode cX4_merged 42 = .ok (.iload 4, 2) := by decide +kernel
theorem dX4_merged_44 : decode cX4_merged 44 = .ok (.iaload, 1) := by decide +kernel
theorem dX4_merged_45 : decode cX4_merged 45 = .ok (.iconst 4, 1) := by decide +kernel
theorem dX4_merged_46 : decode cX4_merged 46 = .ok (.if_icmp .ne 6, 3) := by decide +kernel
theorem dX4_merged_49 : decode cX4_merged 49 = .ok (.goto 103, 3) := by decide +kernel
theorem dX4_merged_52 : decode cX4_merged 52 = .ok (.aload_n 0, 1) := by decide +kernel
theorem dX4_merged_53 : decode cX4_merged 53 = .ok (.getfield 27, 3) := by decide +kernel
theorem dX4_merged_56 : decode cX4_merged 56 = .ok (.iload 4, 2) := by decide +kernel
theorem dX4_merged_58 : decode cX4_merged 58 = .ok (.iaload, 1) := by decide +kernel
theorem dX4_merged_59 : decode cX4_merged 59 = .ok (.ifCond .ne 31, 3) := by decide +kernel
theorem dX4_merged_62 : decode cX4_merged 62 = .ok (.iload_n 1, 1) := by decide +kernel
theorem dX4_merged_63 : decode cX4_merged 63 = .ok (.iconst 2, 1) := by decide +kernel
theorem dX4_merged_64 : decode cX4_merged 64 = .ok (.if_icmp .ne 26, 3) := by decide +kernel
theorem dX4_merged_67 : decode cX4_merged 67 = .ok (.aload_n 0, 1) := by decide +kernel
theorem dX4_merged_68 : decode cX4_merged 68 = .ok (.aload_n 2, 1) := by decide +kernel
theorem dX4_merged_69 : decode cX4_merged 69 = .ok (.iload_n 3, 1) := by decide +kernel
theorem dX4_merged_70 : decode cX4_merged 70 = .ok (.aload_n 0, 1) := by decide +kernel
theorem dX4_merged_71 : decode cX4_merged 71 = .ok (.getfield 31, 3) := by decide +kernel
theorem dX4_merged_74 : decode cX4_merged 74 = .ok (.iload 4, 2) := by decide +kernel
theorem dX4_merged_76 : decode cX4_merged 76 = .ok (.iaload, 1) := by decide +kernel
theorem dX4_merged_77 : decode cX4_merged 77 = .ok (.aload_n 0, 1) := by decide +kernel
theorem dX4_merged_78 : decode cX4_merged 78 = .ok (.getfield 34, 3) := by decide +kernel
theorem dX4_merged_81 : decode cX4_merged 81 = .ok (.iload 4, 2) := by decide +kernel
theorem dX4_merged_83 : decode cX4_merged 83 = .ok (.iaload, 1) := by decide +kernel
theorem dX4_merged_84 : decode cX4_merged 84 = .ok (.invokevirtual 69, 3) := by decide +kernel
theorem dX4_merged_87 : decode cX4_merged 87 = .ok (.goto 62, 3) := by decide +kernel
theorem dX4_merged_90 : decode cX4_merged 90 = .ok (.aload_n 0, 1) := by decide +kernel
theorem dX4_merged_91 : decode cX4_merged 91 = .ok (.iload 4, 2) := by decide +kernel
theorem dX4_merged_93 : decode cX4_merged 93 = .ok (.invokevirtual 73, 3) := by decide +kernel
theorem dX4_merged_96 : decode cX4_merged 96 = .ok (.ifCond .eq 18, 3) := by decide +kernel
theorem dX4_merged_99 : decode cX4_merged 99 = .ok (.aload_n 0, 1) := by decide +kernel
theorem dX4_merged_100 : decode cX4_merged 100 = .ok (.getfield 27, 3) := by decide +kernel
theorem dX4_merged_103 : decode cX4_merged 103 = .ok (.iload 4, 2) := by decide +kernel
theorem dX4_merged_105 : decode cX4_merged 105 = .ok (.iaload, 1) := by decide +kernel
theorem dX4_merged_106 : decode cX4_merged 106 = .ok (.ifCond .ne 27, 3) := by decide +kernel
theorem dX4_merged_109 : decode cX4_merged 109 = .ok (.iload_n 1, 1) := by decide +kernel
theorem dX4_merged_110 : decode cX4_merged 110 = .ok (.iconst 1, 1) := by decide +kernel
theorem dX4_merged_111 : decode cX4_merged 111 = .ok (.if_icmp .ne 22, 3) := by decide +kernel
theorem dX4_merged_114 : decode cX4_merged 114 = .ok (.aload_n 2, 1) := by decide +kernel
theorem dX4_merged_115 : decode cX4_merged 115 = .ok (.iload_n 3, 1) := by decide +kernel
theorem dX4_merged_116 : decode cX4_merged 116 = .ok (.aload_n 0, 1) := by decide +kernel
theorem dX4_merged_117 : decode cX4_merged 117 = .ok (.getfield 15, 3) := by decide +kernel
theorem dX4_merged_120 : decode cX4_merged 120 = .ok (.aload_n 0, 1) := by decide +kernel
theorem dX4_merged_121 : decode cX4_merged 121 = .ok (.getfield 34, 3) := by decide +kernel
theorem dX4_merged_124 : decode cX4_merged 124 = .ok (.iload 4, 2) := by decide +kernel
theorem dX4_merged_126 : decode cX4_merged 126 = .ok (.iaload, 1) := by decide +kernel
theorem dX4_merged_127 : decode cX4_merged 127 = .ok (.invokevirtual 77, 3) := by decide +kernel
theorem dX4_merged_130 : decode cX4_merged 130 = .ok (.goto 19, 3) := by decide +kernel
theorem dX4_merged_133 : decode cX4_merged 133 = .ok (.aload_n 2, 1) := by decide +kernel
theorem dX4_merged_134 : decode cX4_merged 134 = .ok (.iload_n 3, 1) := by decide +kernel
theorem dX4_merged_135 : decode cX4_merged 135 = .ok (.aload_n 0, 1) := by decide +kernel
theorem dX4_merged_136 : decode cX4_merged 136 = .ok (.getfield 9, 3) := by decide +kernel
theorem dX4_merged_139 : decode cX4_merged 139 = .ok (.aload_n 0, 1) := by decide +kernel
theorem dX4_merged_140 : decode cX4_merged 140 = .ok (.getfield 31, 3) := by decide +kernel
theorem dX4_merged_143 : decode cX4_merged 143 = .ok (.iload 4, 2) := by decide +kernel
theorem dX4_merged_145 : decode cX4_merged 145 = .ok (.iaload, 1) := by decide +kernel
theorem dX4_merged_146 : decode cX4_merged 146 = .ok (.invokevirtual 77, 3) := by decide +kernel
theorem dX4_merged_149 : decode cX4_merged 149 = .ok (.iinc 3 1, 3) := by decide +kernel
theorem dX4_merged_152 : decode cX4_merged 152 = .ok (.iinc 4 1, 3) := by decide +kernel
theorem dX4_merged_155 : decode cX4_merged 155 = .ok (.goto (-134), 3) := by decide +kernel
theorem dX4_merged_158 : decode cX4_merged 158 = .ok (.aload_n 2, 1) := by decide +kernel
theorem dX4_merged_159 : decode cX4_merged 159 = .ok (.areturn, 1) := by decide +kernel
theorem dX4_mergeMean_0 : decode cX4_mergeMean 0 = .ok (.aload_n 0, 1) := by decide +kernel
theorem dX4_mergeMean_1 : decode cX4_mergeMean 1 = .ok (.getfield 9, 3) := by decide +kernel
theorem dX4_mergeMean_4 : decode cX4_mergeMean 4 = .ok (.getfield 81, 3) := by decide +kernel
theorem dX4_mergeMean_7 : decode cX4_mergeMean 7 = .ok (.iload_n 3, 1) := by decide +kernel
theorem dX4_mergeMean_8 : decode cX4_mergeMean 8 = .ok (.iaload, 1) := by decide +kernel
theorem dX4_mergeMean_9 : decode cX4_mergeMean 9 = .ok (.bipush 7, 2) := by decide +kernel
theorem dX4_mergeMean_11 : decode cX4_mergeMean 11 = .ok (.if_icmp .gt 22, 3) := by decide +kernel
theorem dX4_mergeMean_14 : decode cX4_mergeMean 14 = .ok (.aload_n 0, 1) := by decide +kernel
theorem dX4_mergeMean_15 : decode cX4_mergeMean 15 = .ok (.getfield 15, 3) := by decide +kernel
theorem dX4_mergeMean_18 : decode cX4_mergeMean 18 = .ok (.getfield 81, 3) := by decide +kernel
theorem dX4_mergeMean_21 : decode cX4_mergeMean 21 = .ok (.iload 4, 2) := by decide +kernel
theorem dX4_mergeMean_23 : decode cX4_mergeMean 23 = .ok (.iaload, 1) := by decide +kernel
theorem dX4_mergeMean_24 : decode cX4_mergeMean 24 = .ok (.bipush 7, 2) := by decide +kernel
theorem dX4_mergeMean_26 : decode cX4_mergeMean 26 = .ok (.if_icmp .gt 7, 3) := by decide +kernel
theorem dX4_mergeMean_29 : decode cX4_mergeMean 29 = .ok (.iconst 1, 1) := by decide +kernel
theorem dX4_mergeMean_30 : decode cX4_mergeMean 30 = .ok (.goto 4, 3) := by decide +kernel
theorem dX4_mergeMean_33 : decode cX4_mergeMean 33 = .ok (.iconst 0, 1) := by decide +kernel
theorem dX4_mergeMean_34 : decode cX4_mergeMean 34 = .ok (.istore 5, 2) := by decide +kernel
theorem dX4_mergeMean_36 : decode cX4_mergeMean 36 = .ok (.iload 5, 2) := by decide +kernel
theorem dX4_mergeMean_38 : decode cX4_mergeMean 38 = .ok (.ifCond .eq 28, 3) := by decide +kernel
theorem dX4_mergeMean_41 : decode cX4_mergeMean 41 = .ok (.aload_n 0, 1) := by decide +kernel
theorem dX4_mergeMean_42 : decode cX4_mergeMean 42 = .ok (.getfield 9, 3) := by decide +kernel
theorem dX4_mergeMean_45 : decode cX4_mergeMean 45 = .ok (.getfield 81, 3) := by decide +kernel
theorem dX4_mergeMean_48 : decode cX4_mergeMean 48 = .ok (.iload_n 3, 1) := by decide +kernel
theorem dX4_mergeMean_49 : decode cX4_mergeMean 49 = .ok (.iaload, 1) := by decide +kernel
theorem dX4_mergeMean_50 : decode cX4_mergeMean 50 = .ok (.aload_n 0, 1) := by decide +kernel
theorem dX4_mergeMean_51 : decode cX4_mergeMean 51 = .ok (.getfield 15, 3) := by decide +kernel
theorem dX4_mergeMean_54 : decode cX4_mergeMean 54 = .ok (.getfield 81, 3) := by decide +kernel
theorem dX4_mergeMean_57 : decode cX4_mergeMean 57 = .ok (.iload 4, 2) := by decide +kernel
theorem dX4_mergeMean_59 : decode cX4_mergeMean 59 = .ok (.iaload, 1) := by decide +kernel
theorem dX4_mergeMean_60 : decode cX4_mergeMean 60 = .ok (.invokestatic 49, 3) := by decide +kernel
theorem dX4_mergeMean_63 : decode cX4_mergeMean 63 = .ok (.goto 4, 3) := by decide +kernel
theorem dX4_mergeMean_66 : decode cX4_mergeMean 66 = .ok (.iconst (-1), 1) := by decide +kernel
theorem dX4_mergeMean_67 : decode cX4_mergeMean 67 = .ok (.istore 6, 2) := by decide +kernel
theorem dX4_mergeMean_69 : decode cX4_mergeMean 69 = .ok (.iload 6, 2) := by decide +kernel
theorem dX4_mergeMean_71 : decode cX4_mergeMean 71 = .ok (.iconst (-1), 1) := by decide +kernel
theorem dX4_mergeMean_72 : decode cX4_mergeMean 72 = .ok (.if_icmp .ne 16, 3) := by decide +kernel
theorem dX4_mergeMean_75 : decode cX4_mergeMean 75 = .ok (.aload_n 1, 1) := by decide +kernel
theorem dX4_mergeMean_76 : decode cX4_mergeMean 76 = .ok (.iload_n 2, 1) := by decide +kernel
theorem dX4_mergeMean_77 : decode cX4_mergeMean 77 = .ok (.aload_n 0, 1) := by decide +kernel
theorem dX4_mergeMean_78 : decode cX4_mergeMean 78 = .ok (.getfield 9, 3) := by decide +kernel
theorem dX4_mergeMean_81 : decode cX4_mergeMean 81 = .ok (.iload_n 3, 1) := by decide +kernel
theorem dX4_mergeMean_82 : decode cX4_mergeMean 82 = .ok (.invokevirtual 77, 3) := by decide +kernel
theorem dX4_mergeMean_85 : decode cX4_mergeMean 85 = .ok (.goto 21, 3) := by decide +kernel
theorem dX4_mergeMean_88 : decode cX4_mergeMean 88 = .ok (.aload_n 1, 1) := by decide +kernel
theorem dX4_mergeMean_89 : decode cX4_mergeMean 89 = .ok (.iload_n 2, 1) := by decide +kernel
theorem dX4_mergeMean_90 : decode cX4_mergeMean 90 = .ok (.iload 6, 2) := by decide +kernel
theorem dX4_mergeMean_92 : decode cX4_mergeMean 92 = .ok (.aload_n 0, 1) := by decide +kernel
theorem dX4_mergeMean_93 : decode cX4_mergeMean 93 = .ok (.getfield 9, 3) := by decide +kernel
theorem dX4_mergeMean_96 : decode cX4_mergeMean 96 = .ok (.iload_n 3, 1) := by decide +kernel
theorem dX4_mergeMean_97 : decode cX4_mergeMean 97 = .ok (.aload_n 0, 1) := by decide +kernel
theorem dX4_mergeMean_98 : decode cX4_mergeMean 98 = .ok (.getfield 15, 3) := by decide +kernel
theorem dX4_mergeMean_101 : decode cX4_mergeMean 101 = .ok (.iload 4, 2) := by decide +kernel
theorem dX4_mergeMean_103 : decode cX4_mergeMean 103 = .ok (.invokevirtual 84, 3) := by decide +kernel
theorem dX4_mergeMean_106 : decode cX4_mergeMean 106 = .ok (.return_, 1) := by decide +kernel
theorem dX5_fits_0 : decode cX5_fits 0 = .ok (.iload_n 1, 1) := by decide +kernel
theorem dX5_fits_1 : decode cX5_fits 1 = .ok (.bipush 9, 2) := by decide +kernel
theorem dX5_fits_3 : decode cX5_fits 3 = .ok (.if_icmp .ne 5, 3) := by decide +kernel
theorem dX5_fits_6 : decode cX5_fits 6 = .ok (.iconst 1, 1) := by decide +kernel
theorem dX5_fits_7 : decode cX5_fits 7 = .ok (.ireturn, 1) := by decide +kernel
theorem dX5_fits_8 : decode cX5_fits 8 = .ok (.iload_n 1, 1) := by decide +kernel
theorem dX5_fits_9 : decode cX5_fits 9 = .ok (.bipush 7, 2) := by decide +kernel
theorem dX5_fits_11 : decode cX5_fits 11 = .ok (.if_icmp .le 20, 3) := by decide +kernel
theorem dX5_fits_14 : decode cX5_fits 14 = .ok (.iload_n 0, 1) := by decide +kernel
theorem dX5_fits_15 : decode cX5_fits 15 = .ok (.iload_n 1, 1) := by decide +kernel
theorem dX5_fits_16 : decode cX5_fits 16 = .ok (.if_icmp .eq 9, 3) := by decide +kernel
theorem dX5_fits_19 : decode cX5_fits 19 = .ok (.iload_n 0, 1) := by decide +kernel
theorem dX5_fits_20 : decode cX5_fits 20 = .ok (.bipush 9, 2) := by decide +kernel
theorem dX5_fits_22 : decode cX5_fits 22 = .ok (.if_icmp .ne 7, 3) := by decide +kernel
theorem dX5_fits_25 : decode cX5_fits 25 = .ok (.iconst 1, 1) := by decide +kernel
theorem dX5_fits_26 : decode cX5_fits 26 = .ok (.goto 4, 3) := by decide +kernel
theorem dX5_fits_29 : decode cX5_fits 29 = .ok (.iconst 0, 1) := by decide +kernel
theorem dX5_fits_30 : decode cX5_fits 30 = .ok (.ireturn, 1) := by decide +kernel
theorem dX5_fits_31 : decode cX5_fits 31 = .ok (.iload_n 0, 1) := by decide +kernel
theorem dX5_fits_32 : decode cX5_fits 32 = .ok (.iload_n 1, 1) := by decide +kernel
theorem dX5_fits_33 : decode cX5_fits 33 = .ok (.if_icmp .ne 5, 3) := by decide +kernel
theorem dX5_fits_36 : decode cX5_fits 36 = .ok (.iconst 1, 1) := by decide +kernel
theorem dX5_fits_37 : decode cX5_fits 37 = .ok (.ireturn, 1) := by decide +kernel
theorem dX5_fits_38 : decode cX5_fits 38 = .ok (.iload_n 0, 1) := by decide +kernel
theorem dX5_fits_39 : decode cX5_fits 39 = .ok (.ifCond .eq 9, 3) := by decide +kernel
theorem dX5_fits_42 : decode cX5_fits 42 = .ok (.iload_n 0, 1) := by decide +kernel
theorem dX5_fits_43 : decode cX5_fits 43 = .ok (.bipush 7, 2) := by decide +kernel
theorem dX5_fits_45 : decode cX5_fits 45 = .ok (.if_icmp .le 5, 3) := by decide +kernel
theorem dX5_fits_48 : decode cX5_fits 48 = .ok (.iconst 0, 1) := by decide +kernel
theorem dX5_fits_49 : decode cX5_fits 49 = .ok (.ireturn, 1) := by decide +kernel
theorem dX5_fits_50 : decode cX5_fits 50 = .ok (.iload_n 1, 1) := by decide +kernel
theorem dX5_fits_51 : decode cX5_fits 51 = .ok (.iconst 4, 1) := by decide +kernel
theorem dX5_fits_52 : decode cX5_fits 52 = .ok (.if_icmp .lt 16, 3) := by decide +kernel
theorem dX5_fits_55 : decode cX5_fits 55 = .ok (.iload_n 0, 1) := by decide +kernel
theorem dX5_fits_56 : decode cX5_fits 56 = .ok (.iload_n 1, 1) := by decide +kernel
theorem dX5_fits_57 : decode cX5_fits 57 = .ok (.if_icmp .ge 7, 3) := by decide +kernel
theorem dX5_fits_60 : decode cX5_fits 60 = .ok (.iconst 1, 1) := by decide +kernel
theorem dX5_fits_61 : decode cX5_fits 61 = .ok (.goto 22, 3) := by decide +kernel
theorem dX5_fits_64 : decode cX5_fits 64 = .ok (.iconst 0, 1) := by decide +kernel
theorem dX5_fits_65 : decode cX5_fits 65 = .ok (.goto 18, 3) := by decide +kernel
theorem dX5_fits_68 : decode cX5_fits 68 = .ok (.iload_n 1, 1) := by decide +kernel
theorem dX5_fits_69 : decode cX5_fits 69 = .ok (.iconst 3, 1) := by decide +kernel
theorem dX5_fits_70 : decode cX5_fits 70 = .ok (.if_icmp .ne 12, 3) := by decide +kernel
theorem dX5_fits_73 : decode cX5_fits 73 = .ok (.iload_n 0, 1) := by decide +kernel
theorem dX5_fits_74 : decode cX5_fits 74 = .ok (.iconst 1, 1) := by decide +kernel
theorem dX5_fits_75 : decode cX5_fits 75 = .ok (.if_icmp .ne 7, 3) := by decide +kernel
theorem dX5_fits_78 : decode cX5_fits 78 = .ok (.iconst 1, 1) := by decide +kernel
theorem dX5_fits_79 : decode cX5_fits 79 = .ok (.goto 4, 3) := by decide +kernel
theorem dX5_fits_82 : decode cX5_fits 82 = .ok (.iconst 0, 1) := by decide +kernel
theorem dX5_fits_83 : decode cX5_fits 83 = .ok (.ireturn, 1) := by decide +kernel
theorem dX5_joined_0 : decode cX5_joined 0 = .ok (.iload_n 0, 1) := by decide +kernel
theorem dX5_joined_1 : decode cX5_joined 1 = .ok (.iload_n 1, 1) := by decide +kernel
theorem dX5_joined_2 : decode cX5_joined 2 = .ok (.if_icmp .ne 5, 3) := by decide +kernel
theorem dX5_joined_5 : decode cX5_joined 5 = .ok (.iload_n 0, 1) := by decide +kernel
theorem dX5_joined_6 : decode cX5_joined 6 = .ok (.ireturn, 1) := by decide +kernel
theorem dX5_joined_7 : decode cX5_joined 7 = .ok (.iload_n 0, 1) := by decide +kernel
theorem dX5_joined_8 : decode cX5_joined 8 = .ok (.ifCond .eq 7, 3) := by decide +kernel
theorem dX5_joined_11 : decode cX5_joined 11 = .ok (.iload_n 1, 1) := by decide +kernel
theorem dX5_joined_12 : decode cX5_joined 12 = .ok (.ifCond .ne 5, 3) := by decide +kernel
theorem dX5_joined_15 : decode cX5_joined 15 = .ok (.iconst (-1), 1) := by decide +kernel
theorem dX5_joined_16 : decode cX5_joined 16 = .ok (.ireturn, 1) := by decide +kernel
theorem dX5_joined_17 : decode cX5_joined 17 = .ok (.iload_n 0, 1) := by decide +kernel
theorem dX5_joined_18 : decode cX5_joined 18 = .ok (.iload_n 1, 1) := by decide +kernel
theorem dX5_joined_19 : decode cX5_joined 19 = .ok (.invokestatic 9, 3) := by decide +kernel
theorem dX5_joined_22 : decode cX5_joined 22 = .ok (.istore_n 2, 1) := by decide +kernel
theorem dX5_joined_23 : decode cX5_joined 23 = .ok (.iload_n 2, 1) := by decide +kernel
theorem dX5_joined_24 : decode cX5_joined 24 = .ok (.iconst 4, 1) := by decide +kernel
theorem dX5_joined_25 : decode cX5_joined 25 = .ok (.if_icmp .lt 5, 3) := by decide +kernel
theorem dX5_joined_28 : decode cX5_joined 28 = .ok (.iload_n 2, 1) := by decide +kernel
theorem dX5_joined_29 : decode cX5_joined 29 = .ok (.ireturn, 1) := by decide +kernel
theorem dX5_joined_30 : decode cX5_joined 30 = .ok (.iload_n 0, 1) := by decide +kernel
theorem dX5_joined_31 : decode cX5_joined 31 = .ok (.iconst 2, 1) := by decide +kernel
theorem dX5_joined_32 : decode cX5_joined 32 = .ok (.if_icmp .eq 8, 3) := by decide +kernel
theorem dX5_joined_35 : decode cX5_joined 35 = .ok (.iload_n 1, 1) := by decide +kernel
theorem dX5_joined_36 : decode cX5_joined 36 = .ok (.iconst 2, 1) := by decide +kernel
theorem dX5_joined_37 : decode cX5_joined 37 = .ok (.if_icmp .ne 7, 3) := by decide +kernel
theorem dX5_joined_40 : decode cX5_joined 40 = .ok (.iconst 4, 1) := by decide +kernel
theorem dX5_joined_41 : decode cX5_joined 41 = .ok (.goto 4, 3) := by decide +kernel
theorem dX5_joined_44 : decode cX5_joined 44 = .ok (.iconst 3, 1) := by decide +kernel
theorem dX5_joined_45 : decode cX5_joined 45 = .ok (.ireturn, 1) := by decide +kernel
theorem dX5_isReal_0 : decode cX5_isReal 0 = .ok (.iload_n 0, 1) := by decide +kernel
theorem dX5_isReal_1 : decode cX5_isReal 1 = .ok (.bipush 6, 2) := by decide +kernel
theorem dX5_isReal_3 : decode cX5_isReal 3 = .ok (.if_icmp .eq 9, 3) := by decide +kernel
theorem dX5_isReal_6 : decode cX5_isReal 6 = .ok (.iload_n 0, 1) := by decide +kernel
theorem dX5_isReal_7 : decode cX5_isReal 7 = .ok (.bipush 7, 2) := by decide +kernel
theorem dX5_isReal_9 : decode cX5_isReal 9 = .ok (.if_icmp .ne 7, 3) := by decide +kernel
theorem dX5_isReal_12 : decode cX5_isReal 12 = .ok (.iconst 1, 1) := by decide +kernel
theorem dX5_isReal_13 : decode cX5_isReal 13 = .ok (.goto 4, 3) := by decide +kernel
theorem dX5_isReal_16 : decode cX5_isReal 16 = .ok (.iconst 0, 1) := by decide +kernel
theorem dX5_isReal_17 : decode cX5_isReal 17 = .ok (.ireturn, 1) := by decide +kernel
theorem dX6_verdict_0 : decode cX6_verdict 0 = .ok (.aload_n 0, 1) := by decide +kernel
theorem dX6_verdict_1 : decode cX6_verdict 1 = .ok (.getfield 9, 3) := by decide +kernel
theorem dX6_verdict_4 : decode cX6_verdict 4 = .ok (.iload_n 1, 1) := by decide +kernel
theorem dX6_verdict_5 : decode cX6_verdict 5 = .ok (.iaload, 1) := by decide +kernel
theorem dX6_verdict_6 : decode cX6_verdict 6 = .ok (.istore 5, 2) := by decide +kernel
theorem dX6_verdict_8 : decode cX6_verdict 8 = .ok (.aload_n 2, 1) := by decide +kernel
theorem dX6_verdict_9 : decode cX6_verdict 9 = .ok (.getfield 9, 3) := by decide +kernel
theorem dX6_verdict_12 : decode cX6_verdict 12 = .ok (.iload_n 3, 1) := by decide +kernel
theorem dX6_verdict_13 : decode cX6_verdict 13 = .ok (.iaload, 1) := by decide +kernel
theorem dX6_verdict_14 : decode cX6_verdict 14 = .ok (.istore 6, 2) := by decide +kernel
theorem dX6_verdict_16 : decode cX6_verdict 16 = .ok (.iload 5, 2) := by decide +kernel
theorem dX6_verdict_18 : decode cX6_verdict 18 = .ok (.bipush 7, 2) := by decide +kernel
theorem dX6_verdict_20 : decode cX6_verdict 20 = .ok (.if_icmp .gt 10, 3) := by decide +kernel
theorem dX6_verdict_23 : decode cX6_verdict 23 = .ok (.iload 6, 2) := by decide +kernel
theorem dX6_verdict_25 : decode cX6_verdict 25 = .ok (.bipush 7, 2) := by decide +kernel
theorem dX6_verdict_27 : decode cX6_verdict 27 = .ok (.if_icmp .le 32, 3) := by decide +kernel
theorem dX6_verdict_30 : decode cX6_verdict 30 = .ok (.iload 5, 2) := by decide +kernel
theorem dX6_verdict_32 : decode cX6_verdict 32 = .ok (.iload 6, 2) := by decide +kernel
theorem dX6_verdict_34 : decode cX6_verdict 34 = .ok (.if_icmp .ne 23, 3) := by decide +kernel
theorem dX6_verdict_37 : decode cX6_verdict 37 = .ok (.aload_n 0, 1) := by decide +kernel
theorem dX6_verdict_38 : decode cX6_verdict 38 = .ok (.getfield 15, 3) := by decide +kernel
theorem dX6_verdict_41 : decode cX6_verdict 41 = .ok (.iload_n 1, 1) := by decide +kernel
theorem dX6_verdict_42 : decode cX6_verdict 42 = .ok (.laload, 1) := by decide +kernel
theorem dX6_verdict_43 : decode cX6_verdict 43 = .ok (.aload_n 2, 1) := by decide +kernel
theorem dX6_verdict_44 : decode cX6_verdict 44 = .ok (.getfield 15, 3) := by decide +kernel
theorem dX6_verdict_47 : decode cX6_verdict 47 = .ok (.iload_n 3, 1) := by decide +kernel
theorem dX6_verdict_48 : decode cX6_verdict 48 = .ok (.laload, 1) := by decide +kernel
theorem dX6_verdict_49 : decode cX6_verdict 49 = .ok (.lcmp, 1) := by decide +kernel
theorem dX6_verdict_50 : decode cX6_verdict 50 = .ok (.ifCond .ne 7, 3) := by decide +kernel
theorem dX6_verdict_53 : decode cX6_verdict 53 = .ok (.iconst 0, 1) := by decide +kernel
theorem dX6_verdict_54 : decode cX6_verdict 54 = .ok (.goto 4, 3) := by decide +kernel
theorem dX6_verdict_57 : decode cX6_verdict 57 = .ok (.iconst 2, 1) := by decide +kernel
theorem dX6_verdict_58 : decode cX6_verdict 58 = .ok (.ireturn, 1) := by decide +kernel
theorem dX6_verdict_59 : decode cX6_verdict 59 = .ok (.iload 5, 2) := by decide +kernel
theorem dX6_verdict_61 : decode cX6_verdict 61 = .ok (.iload 6, 2) := by decide +kernel
theorem dX6_verdict_63 : decode cX6_verdict 63 = .ok (.invokestatic 19, 3) := by decide +kernel
theorem dX6_verdict_66 : decode cX6_verdict 66 = .ok (.istore 7, 2) := by decide +kernel
theorem dX6_verdict_68 : decode cX6_verdict 68 = .ok (.iload 7, 2) := by decide +kernel
theorem dX6_verdict_70 : decode cX6_verdict 70 = .ok (.iconst (-1), 1) := by decide +kernel
theorem dX6_verdict_71 : decode cX6_verdict 71 = .ok (.if_icmp .ne 5, 3) := by decide +kernel
theorem dX6_verdict_74 : decode cX6_verdict 74 = .ok (.iconst 2, 1) := by decide +kernel
theorem dX6_verdict_75 : decode cX6_verdict 75 = .ok (.ireturn, 1) := by decide +kernel
theorem dX6_verdict_76 : decode cX6_verdict 76 = .ok (.iload 7, 2) := by decide +kernel
theorem dX6_verdict_78 : decode cX6_verdict 78 = .ok (.invokestatic 25, 3) := by decide +kernel
theorem dX6_verdict_81 : decode cX6_verdict 81 = .ok (.ifCond .eq 23, 3) := by decide +kernel
theorem dX6_verdict_84 : decode cX6_verdict 84 = .ok (.aload_n 0, 1) := by decide +kernel
theorem dX6_verdict_85 : decode cX6_verdict 85 = .ok (.iload_n 1, 1) := by decide +kernel
theorem dX6_verdict_86 : decode cX6_verdict 86 = .ok (.iload 7, 2) := by decide +kernel
theorem dX6_verdict_88 : decode cX6_verdict 88 = .ok (.invokevirtual 29, 3) := by decide +kernel
theorem dX6_verdict_91 : decode cX6_verdict 91 = .ok (.aload_n 2, 1) := by decide +kernel
theorem dX6_verdict_92 : decode cX6_verdict 92 = .ok (.iload_n 3, 1) := by decide +kernel
theorem dX6_verdict_93 : decode cX6_verdict 93 = .ok (.iload 7, 2) := by decide +kernel
theorem dX6_verdict_95 : decode cX6_verdict 95 = .ok (.invokevirtual 29, 3) := by decide +kernel
theorem dX6_verdict_98 : decode cX6_verdict 98 = .ok (.iload 4, 2) := by decide +kernel
theorem dX6_verdict_100 : decode cX6_verdict 100 = .ok (.invokestatic 33, 3) := by decide +kernel
theorem dX6_verdict_103 : decode cX6_verdict 103 = .ok (.ireturn, 1) := by decide +kernel
theorem dX6_verdict_104 : decode cX6_verdict 104 = .ok (.aload_n 0, 1) := by decide +kernel
theorem dX6_verdict_105 : decode cX6_verdict 105 = .ok (.getfield 15, 3) := by decide +kernel
theorem dX6_verdict_108 : decode cX6_verdict 108 = .ok (.iload_n 1, 1) := by decide +kernel
theorem dX6_verdict_109 : decode cX6_verdict 109 = .ok (.laload, 1) := by decide +kernel
theorem dX6_verdict_110 : decode cX6_verdict 110 = .ok (.aload_n 2, 1) := by decide +kernel
theorem dX6_verdict_111 : decode cX6_verdict 111 = .ok (.getfield 15, 3) := by decide +kernel
theorem dX6_verdict_114 : decode cX6_verdict 114 = .ok (.iload_n 3, 1) := by decide +kernel
theorem dX6_verdict_115 : decode cX6_verdict 115 = .ok (.laload, 1) := by decide +kernel
theorem dX6_verdict_116 : decode cX6_verdict 116 = .ok (.lcmp, 1) := by decide +kernel
theorem dX6_verdict_117 : decode cX6_verdict 117 = .ok (.ifCond .ne 5, 3) := by decide +kernel
theorem dX6_verdict_120 : decode cX6_verdict 120 = .ok (.iconst 0, 1) := by decide +kernel
theorem dX6_verdict_121 : decode cX6_verdict 121 = .ok (.ireturn, 1) := by decide +kernel
theorem dX6_verdict_122 : decode cX6_verdict 122 = .ok (.iload 7, 2) := by decide +kernel
theorem dX6_verdict_124 : decode cX6_verdict 124 = .ok (.ifCond .eq 27, 3) := by decide +kernel
theorem dX6_verdict_127 : decode cX6_verdict 127 = .ok (.aload_n 0, 1) := by decide +kernel
theorem dX6_verdict_128 : decode cX6_verdict 128 = .ok (.getfield 15, 3) := by decide +kernel
theorem dX6_verdict_131 : decode cX6_verdict 131 = .ok (.iload_n 1, 1) := by decide +kernel
theorem dX6_verdict_132 : decode cX6_verdict 132 = .ok (.laload, 1) := by decide +kernel
theorem dX6_verdict_133 : decode cX6_verdict 133 = .ok (.aload_n 2, 1) := by decide +kernel
theorem dX6_verdict_134 : decode cX6_verdict 134 = .ok (.getfield 15, 3) := by decide +kernel
theorem dX6_verdict_137 : decode cX6_verdict 137 = .ok (.iload_n 3, 1) := by decide +kernel
theorem dX6_verdict_138 : decode cX6_verdict 138 = .ok (.laload, 1) := by decide +kernel
theorem dX6_verdict_139 : decode cX6_verdict 139 = .ok (.iload 4, 2) := by decide +kernel
theorem dX6_verdict_141 : decode cX6_verdict 141 = .ok (.invokestatic 39, 3) := by decide +kernel
theorem dX6_verdict_144 : decode cX6_verdict 144 = .ok (.ifCond .eq 7, 3) := by decide +kernel
theorem dX6_verdict_147 : decode cX6_verdict 147 = .ok (.iconst 1, 1) := by decide +kernel
theorem dX6_verdict_148 : decode cX6_verdict 148 = .ok (.goto 4, 3) := by decide +kernel
theorem dX6_verdict_151 : decode cX6_verdict 151 = .ok (.iconst 2, 1) := by decide +kernel
theorem dX6_verdict_152 : decode cX6_verdict 152 = .ok (.ireturn, 1) := by decide +kernel
theorem dX6_ofReals_0 : decode cX6_ofReals 0 = .ok (.dload_n 0, 1) := by decide +kernel
theorem dX6_ofReals_1 : decode cX6_ofReals 1 = .ok (.dload_n 2, 1) := by decide +kernel
theorem dX6_ofReals_2 : decode cX6_ofReals 2 = .ok (.dcmp .l, 1) := by decide +kernel
theorem dX6_ofReals_3 : decode cX6_ofReals 3 = .ok (.ifCond .ne 5, 3) := by decide +kernel
theorem dX6_ofReals_6 : decode cX6_ofReals 6 = .ok (.iconst 0, 1) := by decide +kernel
theorem dX6_ofReals_7 : decode cX6_ofReals 7 = .ok (.ireturn, 1) := by decide +kernel
theorem dX6_ofReals_8 : decode cX6_ofReals 8 = .ok (.dload_n 0, 1) := by decide +kernel
theorem dX6_ofReals_9 : decode cX6_ofReals 9 = .ok (.dload_n 2, 1) := by decide +kernel
theorem dX6_ofReals_10 : decode cX6_ofReals 10 = .ok (.dcmp .g, 1) := by decide +kernel
theorem dX6_ofReals_11 : decode cX6_ofReals 11 = .ok (.ifCond .ge 9, 3) := by decide +kernel
theorem dX6_ofReals_14 : decode cX6_ofReals 14 = .ok (.dload_n 2, 1) := by decide +kernel
theorem dX6_ofReals_15 : decode cX6_ofReals 15 = .ok (.dload_n 0, 1) := by decide +kernel
theorem dX6_ofReals_16 : decode cX6_ofReals 16 = .ok (.dsub, 1) := by decide +kernel
theorem dX6_ofReals_17 : decode cX6_ofReals 17 = .ok (.goto 6, 3) := by decide +kernel
theorem dX6_ofReals_20 : decode cX6_ofReals 20 = .ok (.dload_n 0, 1) := by decide +kernel
theorem dX6_ofReals_21 : decode cX6_ofReals 21 = .ok (.dload_n 2, 1) := by decide +kernel
theorem dX6_ofReals_22 : decode cX6_ofReals 22 = .ok (.dsub, 1) := by decide +kernel
theorem dX6_ofReals_23 : decode cX6_ofReals 23 = .ok (.dstore 5, 2) := by decide +kernel
theorem dX6_ofReals_25 : decode cX6_ofReals 25 = .ok (.dload 5, 2) := by decide +kernel
theorem dX6_ofReals_27 : decode cX6_ofReals 27 = .ok (.iload 4, 2) := by decide +kernel
theorem dX6_ofReals_29 : decode cX6_ofReals 29 = .ok (.i2d, 1) := by decide +kernel
theorem dX6_ofReals_30 : decode cX6_ofReals 30 = .ok (.dcmp .g, 1) := by decide +kernel
theorem dX6_ofReals_31 : decode cX6_ofReals 31 = .ok (.ifCond .gt 7, 3) := by decide +kernel
theorem dX6_ofReals_34 : decode cX6_ofReals 34 = .ok (.iconst 1, 1) := by decide +kernel
theorem dX6_ofReals_35 : decode cX6_ofReals 35 = .ok (.goto 4, 3) := by decide +kernel
theorem dX6_ofReals_38 : decode cX6_ofReals 38 = .ok (.iconst 2, 1) := by decide +kernel
theorem dX6_ofReals_39 : decode cX6_ofReals 39 = .ok (.ireturn, 1) := by decide +kernel
theorem dX6_isClose_0 : decode cX6_isClose 0 = .ok (.lload_n 0, 1) := by decide +kernel
theorem dX6_isClose_1 : decode cX6_isClose 1 = .ok (.lload_n 2, 1) := by decide +kernel
theorem dX6_isClose_2 : decode cX6_isClose 2 = .ok (.lcmp, 1) := by decide +kernel
theorem dX6_isClose_3 : decode cX6_isClose 3 = .ok (.ifCond .ge 9, 3) := by decide +kernel
theorem dX6_isClose_6 : decode cX6_isClose 6 = .ok (.lload_n 2, 1) := by decide +kernel
theorem dX6_isClose_7 : decode cX6_isClose 7 = .ok (.lload_n 0, 1) := by decide +kernel
theorem dX6_isClose_8 : decode cX6_isClose 8 = .ok (.lsub, 1) := by decide +kernel
theorem dX6_isClose_9 : decode cX6_isClose 9 = .ok (.goto 6, 3) := by decide +kernel
theorem dX6_isClose_12 : decode cX6_isClose 12 = .ok (.lload_n 0, 1) := by decide +kernel
theorem dX6_isClose_13 : decode cX6_isClose 13 = .ok (.lload_n 2, 1) := by decide +kernel
theorem dX6_isClose_14 : decode cX6_isClose 14 = .ok (.lsub, 1) := by decide +kernel
theorem dX6_isClose_15 : decode cX6_isClose 15 = .ok (.lstore 5, 2) := by decide +kernel
theorem dX6_isClose_17 : decode cX6_isClose 17 = .ok (.lload 5, 2) := by decide +kernel
theorem dX6_isClose_19 : decode cX6_isClose 19 = .ok (.lconst 0, 1) := by decide +kernel
theorem dX6_isClose_20 : decode cX6_isClose 20 = .ok (.lcmp, 1) := by decide +kernel
theorem dX6_isClose_21 : decode cX6_isClose 21 = .ok (.ifCond .lt 16, 3) := by decide +kernel
theorem dX6_isClose_24 : decode cX6_isClose 24 = .ok (.lload 5, 2) := by decide +kernel
theorem dX6_isClose_26 : decode cX6_isClose 26 = .ok (.iload 4, 2) := by decide +kernel
theorem dX6_isClose_28 : decode cX6_isClose 28 = .ok (.i2l, 1) := by decide +kernel
theorem dX6_isClose_29 : decode cX6_isClose 29 = .ok (.lcmp, 1) := by decide +kernel
theorem dX6_isClose_30 : decode cX6_isClose 30 = .ok (.ifCond .gt 7, 3) := by decide +kernel
theorem dX6_isClose_33 : decode cX6_isClose 33 = .ok (.iconst 1, 1) := by decide +kernel
theorem dX6_isClose_34 : decode cX6_isClose 34 = .ok (.goto 4, 3) := by decide +kernel
theorem dX6_isClose_37 : decode cX6_isClose 37 = .ok (.iconst 0, 1) := by decide +kernel
theorem dX6_isClose_38 : decode cX6_isClose 38 = .ok (.ireturn, 1) := by decide +kernel
theorem dX6_isAlike_0 : decode cX6_isAlike 0 = .ok (.aload_n 0, 1) := by decide +kernel
theorem dX6_isAlike_1 : decode cX6_isAlike 1 = .ok (.iload_n 1, 1) := by decide +kernel
theorem dX6_isAlike_2 : decode cX6_isAlike 2 = .ok (.aload_n 2, 1) := by decide +kernel
theorem dX6_isAlike_3 : decode cX6_isAlike 3 = .ok (.iload_n 3, 1) := by decide +kernel
theorem dX6_isAlike_4 : decode cX6_isAlike 4 = .ok (.iconst 0, 1) := by decide +kernel
theorem dX6_isAlike_5 : decode cX6_isAlike 5 = .ok (.invokestatic 43, 3) := by decide +kernel
theorem dX6_isAlike_8 : decode cX6_isAlike 8 = .ok (.ifCond .ne 7, 3) := by decide +kernel
theorem dX6_isAlike_11 : decode cX6_isAlike 11 = .ok (.iconst 1, 1) := by decide +kernel
theorem dX6_isAlike_12 : decode cX6_isAlike 12 = .ok (.goto 4, 3) := by decide +kernel
theorem dX6_isAlike_15 : decode cX6_isAlike 15 = .ok (.iconst 0, 1) := by decide +kernel
theorem dX6_isAlike_16 : decode cX6_isAlike 16 = .ok (.ireturn, 1) := by decide +kernel
theorem dX6_alikeAtShift_0 : decode cX6_alikeAtShift 0 = .ok (.iconst 0, 1) := by decide +kernel
theorem dX6_alikeAtShift_1 : decode cX6_alikeAtShift 1 = .ok (.istore_n 3, 1) := by decide +kernel
theorem dX6_alikeAtShift_2 : decode cX6_alikeAtShift 2 = .ok (.aload_n 0, 1) := by decide +kernel
theorem dX6_alikeAtShift_3 : decode cX6_alikeAtShift 3 = .ok (.getfield 47, 3) := by decide +kernel
theorem dX6_alikeAtShift_6 : decode cX6_alikeAtShift 6 = .ok (.aload_n 1, 1) := by decide +kernel
theorem dX6_alikeAtShift_7 : decode cX6_alikeAtShift 7 = .ok (.getfield 47, 3) := by decide +kernel
theorem dX6_alikeAtShift_10 : decode cX6_alikeAtShift 10 = .ok (.iload_n 2, 1) := by decide +kernel
theorem dX6_alikeAtShift_11 : decode cX6_alikeAtShift 11 = .ok (.isub, 1) := by decide +kernel
theorem dX6_alikeAtShift_12 : decode cX6_alikeAtShift 12 = .ok (.invokestatic 51, 3) := by decide +kernel
theorem dX6_alikeAtShift_15 : decode cX6_alikeAtShift 15 = .ok (.istore 4, 2) := by decide +kernel
theorem dX6_alikeAtShift_17 : decode cX6_alikeAtShift 17 = .ok (.iconst 0, 1) := by decide +kernel
theorem dX6_alikeAtShift_18 : decode cX6_alikeAtShift 18 = .ok (.iload_n 2, 1) := by decide +kernel
theorem dX6_alikeAtShift_19 : decode cX6_alikeAtShift 19 = .ok (.ineg, 1) := by decide +kernel
theorem dX6_alikeAtShift_20 : decode cX6_alikeAtShift 20 = .ok (.invokestatic 56, 3) := by decide +kernel
theorem dX6_alikeAtShift_23 : decode cX6_alikeAtShift 23 = .ok (.istore 5, 2) := by decide +kernel
theorem dX6_alikeAtShift_25 : decode cX6_alikeAtShift 25 = .ok (.iload 5, 2) := by decide +kernel
theorem dX6_alikeAtShift_27 : decode cX6_alikeAtShift 27 = .ok (.iload 4, 2) := by decide +kernel
theorem dX6_alikeAtShift_29 : decode cX6_alikeAtShift 29 = .ok (.if_icmp .ge 26, 3) := by decide +kernel
theorem dX6_alikeAtShift_32 : decode cX6_alikeAtShift 32 = .ok (.aload_n 0, 1) := by decide +kernel
theorem dX6_alikeAtShift_33 : decode cX6_alikeAtShift 33 = .ok (.iload 5, 2) := by decide +kernel
theorem dX6_alikeAtShift_35 : decode cX6_alikeAtShift 35 = .ok (.aload_n 1, 1) := by decide +kernel
theorem dX6_alikeAtShift_36 : decode cX6_alikeAtShift 36 = .ok (.iload 5, 2) := by decide +kernel
theorem dX6_alikeAtShift_38 : decode cX6_alikeAtShift 38 = .ok (.iload_n 2, 1) := by decide +kernel
theorem dX6_alikeAtShift_39 : decode cX6_alikeAtShift 39 = .ok (.iadd, 1) := by decide +kernel
theorem dX6_alikeAtShift_40 : decode cX6_alikeAtShift 40 = .ok (.invokestatic 59, 3) := by decide +kernel
theorem dX6_alikeAtShift_43 : decode cX6_alikeAtShift 43 = .ok (.ifCond .eq 6, 3) := by decide +kernel
theorem dX6_alikeAtShift_46 : decode cX6_alikeAtShift 46 = .ok (.iinc 3 1, 3) := by decide +kernel
theorem dX6_alikeAtShift_49 : decode cX6_alikeAtShift 49 = .ok (.iinc 5 1, 3) := by decide +kernel
theorem dX6_alikeAtShift_52 : decode cX6_alikeAtShift 52 = .ok (.goto (-27), 3) := by decide +kernel
theorem dX6_alikeAtShift_55 : decode cX6_alikeAtShift 55 = .ok (.iload_n 3, 1) := by decide +kernel
theorem dX6_alikeAtShift_56 : decode cX6_alikeAtShift 56 = .ok (.ireturn, 1) := by decide +kernel
theorem dX7_init_0 : decode cX7_init 0 = .ok (.aload_n 0, 1) := by decide +kernel
theorem dX7_init_1 : decode cX7_init 1 = .ok (.invokespecial 3, 3) := by decide +kernel
theorem dX7_init_4 : decode cX7_init 4 = .ok (.aload_n 0, 1) := by decide +kernel
theorem dX7_init_5 : decode cX7_init 5 = .ok (.aload_n 1, 1) := by decide +kernel
theorem dX7_init_6 : decode cX7_init 6 = .ok (.getfield 9, 3) := by decide +kernel
theorem dX7_init_9 : decode cX7_init 9 = .ok (.putfield 15, 3) := by decide +kernel
theorem dX7_init_12 : decode cX7_init 12 = .ok (.aload_n 0, 1) := by decide +kernel
theorem dX7_init_13 : decode cX7_init 13 = .ok (.aload_n 0, 1) := by decide +kernel
theorem dX7_init_14 : decode cX7_init 14 = .ok (.getfield 15, 3) := by decide +kernel
theorem dX7_init_17 : decode cX7_init 17 = .ok (.newarray .int, 2) := by decide +kernel
theorem dX7_init_19 : decode cX7_init 19 = .ok (.putfield 20, 3) := by decide +kernel
theorem dX7_init_22 : decode cX7_init 22 = .ok (.aload_n 0, 1) := by decide +kernel
theorem dX7_init_23 : decode cX7_init 23 = .ok (.new 24, 3) := by decide +kernel
theorem dX7_init_26 : decode cX7_init 26 = .ok (.dup, 1) := by decide +kernel
theorem dX7_init_27 : decode cX7_init 27 = .ok (.bipush 9, 2) := by decide +kernel
theorem dX7_init_29 : decode cX7_init 29 = .ok (.aload_n 0, 1) := by decide +kernel
theorem dX7_init_30 : decode cX7_init 30 = .ok (.getfield 15, 3) := by decide +kernel
theorem dX7_init_33 : decode cX7_init 33 = .ok (.invokespecial 26, 3) := by decide +kernel
theorem dX7_init_36 : decode cX7_init 36 = .ok (.putfield 29, 3) := by decide +kernel
theorem dX7_init_39 : decode cX7_init 39 = .ok (.aload_n 0, 1) := by decide +kernel
theorem dX7_init_40 : decode cX7_init 40 = .ok (.new 24, 3) := by decide +kernel
theorem dX7_init_43 : decode cX7_init 43 = .ok (.dup, 1) := by decide +kernel
theorem dX7_init_44 : decode cX7_init 44 = .ok (.bipush 9, 2) := by decide +kernel
theorem dX7_init_46 : decode cX7_init 46 = .ok (.aload_n 0, 1) := by decide +kernel
theorem dX7_init_47 : decode cX7_init 47 = .ok (.getfield 15, 3) := by decide +kernel
theorem dX7_init_50 : decode cX7_init 50 = .ok (.invokespecial 26, 3) := by decide +kernel
theorem dX7_init_53 : decode cX7_init 53 = .ok (.putfield 33, 3) := by decide +kernel
theorem dX7_init_56 : decode cX7_init 56 = .ok (.iconst 0, 1) := by decide +kernel
theorem dX7_init_57 : decode cX7_init 57 = .ok (.istore_n 2, 1) := by decide +kernel
theorem dX7_init_58 : decode cX7_init 58 = .ok (.iload_n 2, 1) := by decide +kernel
theorem dX7_init_59 : decode cX7_init 59 = .ok (.aload_n 0, 1) := by decide +kernel
theorem dX7_init_60 : decode cX7_init 60 = .ok (.getfield 15, 3) := by decide +kernel
theorem dX7_init_63 : decode cX7_init 63 = .ok (.if_icmp .ge 82, 3) := by decide +kernel
theorem dX7_init_66 : decode cX7_init 66 = .ok (.aload_n 0, 1) := by decide +kernel
theorem dX7_init_67 : decode cX7_init 67 = .ok (.getfield 20, 3) := by decide +kernel
theorem dX7_init_70 : decode cX7_init 70 = .ok (.iload_n 2, 1) := by decide +kernel
theorem dX7_init_71 : decode cX7_init 71 = .ok (.aload_n 1, 1) := by decide +kernel
theorem dX7_init_72 : decode cX7_init 72 = .ok (.getfield 36, 3) := by decide +kernel
theorem dX7_init_75 : decode cX7_init 75 = .ok (.iload_n 2, 1) := by decide +kernel
theorem dX7_init_76 : decode cX7_init 76 = .ok (.iaload, 1) := by decide +kernel
theorem dX7_init_77 : decode cX7_init 77 = .ok (.aload_n 1, 1) := by decide +kernel
theorem dX7_init_78 : decode cX7_init 78 = .ok (.getfield 39, 3) := by decide +kernel
theorem dX7_init_81 : decode cX7_init 81 = .ok (.iload_n 2, 1) := by decide +kernel
theorem dX7_init_82 : decode cX7_init 82 = .ok (.iaload, 1) := by decide +kernel
theorem dX7_init_83 : decode cX7_init 83 = .ok (.invokestatic 42, 3) := by decide +kernel
theorem dX7_init_86 : decode cX7_init 86 = .ok (.iastore, 1) := by decide +kernel
theorem dX7_init_87 : decode cX7_init 87 = .ok (.aload_n 1, 1) := by decide +kernel
theorem dX7_init_88 : decode cX7_init 88 = .ok (.iload_n 2, 1) := by decide +kernel
theorem dX7_init_89 : decode cX7_init 89 = .ok (.invokevirtual 46, 3) := by decide +kernel
theorem dX7_init_92 : decode cX7_init 92 = .ok (.ifCond .eq 21, 3) := by decide +kernel
theorem dX7_init_95 : decode cX7_init 95 = .ok (.aload_n 0, 1) := by decide +kernel
theorem dX7_init_96 : decode cX7_init 96 = .ok (.getfield 29, 3) := by decide +kernel
theorem dX7_init_99 : decode cX7_init 99 = .ok (.iload_n 2, 1) := by decide +kernel
theorem dX7_init_100 : decode cX7_init 100 = .ok (.aload_n 1, 1) := by decide +kernel
theorem dX7_init_101 : decode cX7_init 101 = .ok (.getfield 50, 3) := by decide +kernel
theorem dX7_init_104 : decode cX7_init 104 = .ok (.aload_n 1, 1) := by decide +kernel
theorem dX7_init_105 : decode cX7_init 105 = .ok (.getfield 53, 3) := by decide +kernel
theorem dX7_init_108 : decode cX7_init 108 = .ok (.iload_n 2, 1) := by decide +kernel
theorem dX7_init_109 : decode cX7_init 109 = .ok (.iaload, 1) := by decide +kernel
theorem dX7_init_110 : decode cX7_init 110 = .ok (.invokevirtual 56, 3) := by decide +kernel
theorem dX7_init_113 : decode cX7_init 113 = .ok (.aload_n 1, 1) := by decide +kernel
theorem dX7_init_114 : decode cX7_init 114 = .ok (.iload_n 2, 1) := by decide +kernel
theorem dX7_init_115 : decode cX7_init 115 = .ok (.invokevirtual 60, 3) := by decide +kernel
theorem dX7_init_118 : decode cX7_init 118 = .ok (.ifCond .eq 21, 3) := by decide +kernel
theorem dX7_init_121 : decode cX7_init 121 = .ok (.aload_n 0, 1) := by decide +kernel
theorem dX7_init_122 : decode cX7_init 122 = .ok (.getfield 33, 3) := by decide +kernel
theorem dX7_init_125 : decode cX7_init 125 = .ok (.iload_n 2, 1) := by decide +kernel
theorem dX7_init_126 : decode cX7_init 126 = .ok (.aload_n 1, 1) := by decide +kernel
theorem dX7_init_127 : decode cX7_init 127 = .ok (.getfield 63, 3) := by decide +kernel
theorem dX7_init_130 : decode cX7_init 130 = .ok (.aload_n 1, 1) := by decide +kernel
theorem dX7_init_131 : decode cX7_init 131 = .ok (.getfield 66, 3) := by decide +kernel
theorem dX7_init_134 : decode cX7_init 134 = .ok (.iload_n 2, 1) := by decide +kernel
theorem dX7_init_135 : decode cX7_init 135 = .ok (.iaload, 1) := by decide +kernel
theorem dX7_init_136 : decode cX7_init 136 = .ok (.invokevirtual 56, 3) := by decide +kernel
theorem dX7_init_139 : decode cX7_init 139 = .ok (.iinc 2 1, 3) := by decide +kernel
theorem dX7_init_142 : decode cX7_init 142 = .ok (.goto (-84), 3) := by decide +kernel
theorem dX7_init_145 : decode cX7_init 145 = .ok (.return_, 1) := by decide +kernel
theorem dX7_actOf_0 : decode cX7_actOf 0 = .ok (.iload_n 0, 1) := by decide +kernel
theorem dX7_actOf_1 : decode cX7_actOf 1 = .ok (.iconst 1, 1) := by decide +kernel
theorem dX7_actOf_2 : decode cX7_actOf 2 = .ok (.if_icmp .ne 5, 3) := by decide +kernel
theorem dX7_actOf_5 : decode cX7_actOf 5 = .ok (.iconst 2, 1) := by decide +kernel
theorem dX7_actOf_6 : decode cX7_actOf 6 = .ok (.ireturn, 1) := by decide +kernel
theorem dX7_actOf_7 : decode cX7_actOf 7 = .ok (.iload_n 0, 1) := by decide +kernel
theorem dX7_actOf_8 : decode cX7_actOf 8 = .ok (.iconst 2, 1) := by decide +kernel
theorem dX7_actOf_9 : decode cX7_actOf 9 = .ok (.if_icmp .ne 5, 3) := by decide +kernel
theorem dX7_actOf_12 : decode cX7_actOf 12 = .ok (.iconst 3, 1) := by decide +kernel
theorem dX7_actOf_13 : decode cX7_actOf 13 = .ok (.ireturn, 1) := by decide +kernel
theorem dX7_actOf_14 : decode cX7_actOf 14 = .ok (.iload_n 1, 1) := by decide +kernel
theorem dX7_actOf_15 : decode cX7_actOf 15 = .ok (.ifCond .ne 7, 3) := by decide +kernel
theorem dX7_actOf_18 : decode cX7_actOf 18 = .ok (.iconst 0, 1) := by decide +kernel
theorem dX7_actOf_19 : decode cX7_actOf 19 = .ok (.goto 4, 3) := by decide +kernel
theorem dX7_actOf_22 : decode cX7_actOf 22 = .ok (.iconst 1, 1) := by decide +kernel
theorem dX7_actOf_23 : decode cX7_actOf 23 = .ok (.ireturn, 1) := by decide +kernel
theorem dX7_hasOld_0 : decode cX7_hasOld 0 = .ok (.aload_n 0, 1) := by decide +kernel
theorem dX7_hasOld_1 : decode cX7_hasOld 1 = .ok (.getfield 20, 3) := by decide +kernel
theorem dX7_hasOld_4 : decode cX7_hasOld 4 = .ok (.iload_n 1, 1) := by decide +kernel
theorem dX7_hasOld_5 : decode cX7_hasOld 5 = .ok (.iaload, 1) := by decide +kernel
theorem dX7_hasOld_6 : decode cX7_hasOld 6 = .ok (.iconst 3, 1) := by decide +kernel
theorem dX7_hasOld_7 : decode cX7_hasOld 7 = .ok (.if_icmp .eq 7, 3) := by decide +kernel
theorem dX7_hasOld_10 : decode cX7_hasOld 10 = .ok (.iconst 1, 1) := by decide +kernel
theorem dX7_hasOld_11 : decode cX7_hasOld 11 = .ok (.goto 4, 3) := by decide +kernel
theorem dX7_hasOld_14 : decode cX7_hasOld 14 = .ok (.iconst 0, 1) := by decide +kernel
theorem dX7_hasOld_15 : decode cX7_hasOld 15 = .ok (.ireturn, 1) := by decide +kernel
theorem dX7_hasNew_0 : decode cX7_hasNew 0 = .ok (.aload_n 0, 1) := by decide +kernel
theorem dX7_hasNew_1 : decode cX7_hasNew 1 = .ok (.getfield 20, 3) := by decide +kernel
theorem dX7_hasNew_4 : decode cX7_hasNew 4 = .ok (.iload_n 1, 1) := by decide +kernel
theorem dX7_hasNew_5 : decode cX7_hasNew 5 = .ok (.iaload, 1) := by decide +kernel
theorem dX7_hasNew_6 : decode cX7_hasNew 6 = .ok (.iconst 2, 1) := by decide +kernel
theorem dX7_hasNew_7 : decode cX7_hasNew 7 = .ok (.if_icmp .eq 7, 3) := by decide +kernel
theorem dX7_hasNew_10 : decode cX7_hasNew 10 = .ok (.iconst 1, 1) := by decide +kernel
theorem dX7_hasNew_11 : decode cX7_hasNew 11 = .ok (.goto 4, 3) := by decide +kernel
theorem dX7_hasNew_14 : decode cX7_hasNew 14 = .ok (.iconst 0, 1) := by decide +kernel
theorem dX7_hasNew_15 : decode cX7_hasNew 15 = .ok (.ireturn, 1) := by decide +kernel
theorem dX7_actsOf_0 : decode cX7_actsOf 0 = .ok (.iconst 0, 1) := by decide +kernel
theorem dX7_actsOf_1 : decode cX7_actsOf 1 = .ok (.istore_n 2, 1) := by decide +kernel
theorem dX7_actsOf_2 : decode cX7_actsOf 2 = .ok (.iconst 0, 1) := by decide +kernel
theorem dX7_actsOf_3 : decode cX7_actsOf 3 = .ok (.istore_n 3, 1) := by decide +kernel
theorem dX7_actsOf_4 : decode cX7_actsOf 4 = .ok (.iload_n 3, 1) := by decide +kernel
theorem dX7_actsOf_5 : decode cX7_actsOf 5 = .ok (.aload_n 0, 1) := by decide +kernel
theorem dX7_actsOf_6 : decode cX7_actsOf 6 = .ok (.getfield 15, 3) := by decide +kernel
theorem dX7_actsOf_9 : decode cX7_actsOf 9 = .ok (.if_icmp .ge 22, 3) := by decide +kernel
theorem dX7_actsOf_12 : decode cX7_actsOf 12 = .ok (.aload_n 0, 1) := by decide +kernel
theorem dX7_actsOf_13 : decode cX7_actsOf 13 = .ok (.getfield 20, 3) := by decide +kernel
theorem dX7_actsOf_16 : decode cX7_actsOf 16 = .ok (.iload_n 3, 1) := by decide +kernel
theorem dX7_actsOf_17 : decode cX7_actsOf 17 = .ok (.iaload, 1) := by decide +kernel
theorem dX7_actsOf_18 : decode cX7_actsOf 18 = .ok (.iload_n 1, 1) := by decide +kernel
theorem dX7_actsOf_19 : decode cX7_actsOf 19 = .ok (.if_icmp .ne 6, 3) := by decide +kernel
theorem dX7_actsOf_22 : decode cX7_actsOf 22 = .ok (.iinc 2 1, 3) := by decide +kernel
theorem dX7_actsOf_25 : decode cX7_actsOf 25 = .ok (.iinc 3 1, 3) := by decide +kernel
theorem dX7_actsOf_28 : decode cX7_actsOf 28 = .ok (.goto (-24), 3) := by decide +kernel
theorem dX7_actsOf_31 : decode cX7_actsOf 31 = .ok (.iload_n 2, 1) := by decide +kernel
theorem dX7_actsOf_32 : decode cX7_actsOf 32 = .ok (.ireturn, 1) := by decide +kernel
theorem dX7_reverse_0 : decode cX7_reverse 0 = .ok (.aload_n 0, 1) := by decide +kernel
theorem dX7_reverse_1 : decode cX7_reverse 1 = .ok (.getfield 29, 3) := by decide +kernel
theorem dX7_reverse_4 : decode cX7_reverse 4 = .ok (.astore_n 1, 1) := by decide +kernel
theorem dX7_reverse_5 : decode cX7_reverse 5 = .ok (.aload_n 0, 1) := by decide +kernel
theorem dX7_reverse_6 : decode cX7_reverse 6 = .ok (.aload_n 0, 1) := by decide +kernel
theorem dX7_reverse_7 : decode cX7_reverse 7 = .ok (.getfield 33, 3) := by decide +kernel
theorem dX7_reverse_10 : decode cX7_reverse 10 = .ok (.putfield 29, 3) := by decide +kernel
theorem dX7_reverse_13 : decode cX7_reverse 13 = .ok (.aload_n 0, 1) := by decide +kernel
theorem dX7_reverse_14 : decode cX7_reverse 14 = .ok (.aload_n 1, 1) := by decide +kernel
theorem dX7_reverse_15 : decode cX7_reverse 15 = .ok (.putfield 33, 3) := by decide +kernel
theorem dX7_reverse_18 : decode cX7_reverse 18 = .ok (.iconst 0, 1) := by decide +kernel
theorem dX7_reverse_19 : decode cX7_reverse 19 = .ok (.istore_n 2, 1) := by decide +kernel
theorem dX7_reverse_20 : decode cX7_reverse 20 = .ok (.iload_n 2, 1) := by decide +kernel
theorem dX7_reverse_21 : decode cX7_reverse 21 = .ok (.aload_n 0, 1) := by decide +kernel
theorem dX7_reverse_22 : decode cX7_reverse 22 = .ok (.getfield 15, 3) := by decide +kernel
theorem dX7_reverse_25 : decode cX7_reverse 25 = .ok (.if_icmp .ge 46, 3) := by decide +kernel
theorem dX7_reverse_28 : decode cX7_reverse 28 = .ok (.aload_n 0, 1) := by decide +kernel
theorem dX7_reverse_29 : decode cX7_reverse 29 = .ok (.getfield 20, 3) := by decide +kernel
theorem dX7_reverse_32 : decode cX7_reverse 32 = .ok (.iload_n 2, 1) := by decide +kernel
theorem dX7_reverse_33 : decode cX7_reverse 33 = .ok (.iaload, 1) := by decide +kernel
theorem dX7_reverse_34 : decode cX7_reverse 34 = .ok (.iconst 2, 1) := by decide +kernel
theorem dX7_reverse_35 : decode cX7_reverse 35 = .ok (.if_icmp .ne 13, 3) := by decide +kernel
theorem dX7_reverse_38 : decode cX7_reverse 38 = .ok (.aload_n 0, 1) := by decide +kernel
theorem dX7_reverse_39 : decode cX7_reverse 39 = .ok (.getfield 20, 3) := by decide +kernel
theorem dX7_reverse_42 : decode cX7_reverse 42 = .ok (.iload_n 2, 1) := by decide +kernel
theorem dX7_reverse_43 : decode cX7_reverse 43 = .ok (.iconst 3, 1) := by decide +kernel
theorem dX7_reverse_44 : decode cX7_reverse 44 = .ok (.iastore, 1) := by decide +kernel
theorem dX7_reverse_45 : decode cX7_reverse 45 = .ok (.goto 20, 3) := by decide +kernel
theorem dX7_reverse_48 : decode cX7_reverse 48 = .ok (.aload_n 0, 1) := by decide +kernel
theorem dX7_reverse_49 : decode cX7_reverse 49 = .ok (.getfield 20, 3) := by decide +kernel
theorem dX7_reverse_52 : decode cX7_reverse 52 = .ok (.iload_n 2, 1) := by decide +kernel
theorem dX7_reverse_53 : decode cX7_reverse 53 = .ok (.iaload, 1) := by decide +kernel
theorem dX7_reverse_54 : decode cX7_reverse 54 = .ok (.iconst 3, 1) := by decide +kernel
theorem dX7_reverse_55 : decode cX7_reverse 55 = .ok (.if_icmp .ne 10, 3) := by decide +kernel
theorem dX7_reverse_58 : decode cX7_reverse 58 = .ok (.aload_n 0, 1) := by decide +kernel
theorem dX7_reverse_59 : decode cX7_reverse 59 = .ok (.getfield 20, 3) := by decide +kernel
theorem dX7_reverse_62 : decode cX7_reverse 62 = .ok (.iload_n 2, 1) := by decide +kernel
theorem dX7_reverse_63 : decode cX7_reverse 63 = .ok (.iconst 2, 1) := by decide +kernel
theorem dX7_reverse_64 : decode cX7_reverse 64 = .ok (.iastore, 1) := by decide +kernel
theorem dX7_reverse_65 : decode cX7_reverse 65 = .ok (.iinc 2 1, 3) := by decide +kernel
theorem dX7_reverse_68 : decode cX7_reverse 68 = .ok (.goto (-48), 3) := by decide +kernel
theorem dX7_reverse_71 : decode cX7_reverse 71 = .ok (.return_, 1) := by decide +kernel
theorem dX8_init_0 : decode cX8_init 0 = .ok (.aload_n 0, 1) := by decide +kernel
theorem dX8_init_1 : decode cX8_init 1 = .ok (.invokespecial 3, 3) := by decide +kernel
theorem dX8_init_4 : decode cX8_init 4 = .ok (.aload_n 0, 1) := by decide +kernel
theorem dX8_init_5 : decode cX8_init 5 = .ok (.bipush 8, 2) := by decide +kernel
theorem dX8_init_7 : decode cX8_init 7 = .ok (.anewarray 9, 3) := by decide +kernel
theorem dX8_init_10 : decode cX8_init 10 = .ok (.putfield 11, 3) := by decide +kernel
theorem dX8_init_13 : decode cX8_init 13 = .ok (.aload_n 0, 1) := by decide +kernel
theorem dX8_init_14 : decode cX8_init 14 = .ok (.bipush 8, 2) := by decide +kernel
theorem dX8_init_16 : decode cX8_init 16 = .ok (.newarray .boolean, 2) := by decide +kernel
theorem dX8_init_18 : decode cX8_init 18 = .ok (.putfield 17, 3) := by decide +kernel
theorem dX8_init_21 : decode cX8_init 21 = .ok (.return_, 1) := by decide +kernel
theorem dX8_hold_0 : decode cX8_hold 0 = .ok (.aload_n 0, 1) := by decide +kernel
theorem dX8_hold_1 : decode cX8_hold 1 = .ok (.getfield 11, 3) := by decide +kernel
theorem dX8_hold_4 : decode cX8_hold 4 = .ok (.iload_n 1, 1) := by decide +kernel
theorem dX8_hold_5 : decode cX8_hold 5 = .ok (.aload_n 2, 1) := by decide +kernel
theorem dX8_hold_6 : decode cX8_hold 6 = .ok (.aastore, 1) := by decide +kernel
theorem dX8_hold_7 : decode cX8_hold 7 = .ok (.aload_n 0, 1) := by decide +kernel
theorem dX8_hold_8 : decode cX8_hold 8 = .ok (.getfield 17, 3) := by decide +kernel
theorem dX8_hold_11 : decode cX8_hold 11 = .ok (.iload_n 1, 1) := by decide +kernel
theorem dX8_hold_12 : decode cX8_hold 12 = .ok (.iconst 0, 1) := by decide +kernel
theorem dX8_hold_13 : decode cX8_hold 13 = .ok (.bastore, 1) := by decide +kernel
theorem dX8_hold_14 : decode cX8_hold 14 = .ok (.return_, 1) := by decide +kernel
theorem dX8_holdSingle_0 : decode cX8_holdSingle 0 = .ok (.aload_n 0, 1) := by decide +kernel
theorem dX8_holdSingle_1 : decode cX8_holdSingle 1 = .ok (.getfield 11, 3) := by decide +kernel
theorem dX8_holdSingle_4 : decode cX8_holdSingle 4 = .ok (.iload_n 1, 1) := by decide +kernel
theorem dX8_holdSingle_5 : decode cX8_holdSingle 5 = .ok (.aconst_null, 1) := by decide +kernel
theorem dX8_holdSingle_6 : decode cX8_holdSingle 6 = .ok (.aastore, 1) := by decide +kernel
theorem dX8_holdSingle_7 : decode cX8_holdSingle 7 = .ok (.aload_n 0, 1) := by decide +kernel
theorem dX8_holdSingle_8 : decode cX8_holdSingle 8 = .ok (.getfield 17, 3) := by decide +kernel
theorem dX8_holdSingle_11 : decode cX8_holdSingle 11 = .ok (.iload_n 1, 1) := by decide +kernel
theorem dX8_holdSingle_12 : decode cX8_holdSingle 12 = .ok (.iconst 1, 1) := by decide +kernel
theorem dX8_holdSingle_13 : decode cX8_holdSingle 13 = .ok (.bastore, 1) := by decide +kernel
theorem dX8_holdSingle_14 : decode cX8_holdSingle 14 = .ok (.return_, 1) := by decide +kernel
theorem dX8_holdSame_0 : decode cX8_holdSame 0 = .ok (.aload_n 0, 1) := by decide +kernel
theorem dX8_holdSame_1 : decode cX8_holdSame 1 = .ok (.getfield 11, 3) := by decide +kernel
theorem dX8_holdSame_4 : decode cX8_holdSame 4 = .ok (.iload_n 1, 1) := by decide +kernel
theorem dX8_holdSame_5 : decode cX8_holdSame 5 = .ok (.aload_n 0, 1) := by decide +kernel
theorem dX8_holdSame_6 : decode cX8_holdSame 6 = .ok (.getfield 11, 3) := by decide +kernel
theorem dX8_holdSame_9 : decode cX8_holdSame 9 = .ok (.iload_n 2, 1) := by decide +kernel
theorem dX8_holdSame_10 : decode cX8_holdSame 10 = .ok (.aaload, 1) := by decide +kernel
theorem dX8_holdSame_11 : decode cX8_holdSame 11 = .ok (.aastore, 1) := by decide +kernel
theorem dX8_holdSame_12 : decode cX8_holdSame 12 = .ok (.aload_n 0, 1) := by decide +kernel
theorem dX8_holdSame_13 : decode cX8_holdSame 13 = .ok (.getfield 17, 3) := by decide +kernel
theorem dX8_holdSame_16 : decode cX8_holdSame 16 = .ok (.iload_n 1, 1) := by decide +kernel
theorem dX8_holdSame_17 : decode cX8_holdSame 17 = .ok (.aload_n 0, 1) := by decide +kernel
theorem dX8_holdSame_18 : decode cX8_holdSame 18 = .ok (.getfield 17, 3) := by decide +kernel
theorem dX8_holdSame_21 : decode cX8_holdSame 21 = .ok (.iload_n 2, 1) := by decide +kernel
theorem dX8_holdSame_22 : decode cX8_holdSame 22 = .ok (.baload, 1) := by decide +kernel
theorem dX8_holdSame_23 : decode cX8_holdSame 23 = .ok (.bastore, 1) := by decide +kernel
theorem dX8_holdSame_24 : decode cX8_holdSame 24 = .ok (.return_, 1) := by decide +kernel
theorem dX8_faultWithoutArray_0 : decode cX8_faultWithoutArray 0 = .ok (.aload_n 0, 1) := by decide +kernel
theorem dX8_faultWithoutArray_1 : decode cX8_faultWithoutArray 1 = .ok (.getfield 17, 3) := by decide +kernel
theorem dX8_faultWithoutArray_4 : decode cX8_faultWithoutArray 4 = .ok (.iload_n 1, 1) := by decide +kernel
theorem dX8_faultWithoutArray_5 : decode cX8_faultWithoutArray 5 = .ok (.baload, 1) := by decide +kernel
theorem dX8_faultWithoutArray_6 : decode cX8_faultWithoutArray 6 = .ok (.ifCond .eq 7, 3) := by decide +kernel
theorem dX8_faultWithoutArray_9 : decode cX8_faultWithoutArray 9 = .ok (.iconst 2, 1) := by decide +kernel
theorem dX8_faultWithoutArray_10 : decode cX8_faultWithoutArray 10 = .ok (.goto 4, 3) := by decide +kernel
theorem dX8_faultWithoutArray_13 : decode cX8_faultWithoutArray 13 = .ok (.iconst 1, 1) := by decide +kernel
theorem dX8_faultWithoutArray_14 : decode cX8_faultWithoutArray 14 = .ok (.ireturn, 1) := by decide +kernel
theorem dX8_leastHolder_0 : decode cX8_leastHolder 0 = .ok (.iconst 0, 1) := by decide +kernel
theorem dX8_leastHolder_1 : decode cX8_leastHolder 1 = .ok (.istore_n 2, 1) := by decide +kernel
theorem dX8_leastHolder_2 : decode cX8_leastHolder 2 = .ok (.iload_n 2, 1) := by decide +kernel
theorem dX8_leastHolder_3 : decode cX8_leastHolder 3 = .ok (.bipush 7, 2) := by decide +kernel
theorem dX8_leastHolder_5 : decode cX8_leastHolder 5 = .ok (.if_icmp .ge 19, 3) := by decide +kernel
theorem dX8_leastHolder_8 : decode cX8_leastHolder 8 = .ok (.aload_n 0, 1) := by decide +kernel
theorem dX8_leastHolder_9 : decode cX8_leastHolder 9 = .ok (.getfield 11, 3) := by decide +kernel
theorem dX8_leastHolder_12 : decode cX8_leastHolder 12 = .ok (.iload_n 2, 1) := by decide +kernel
theorem dX8_leastHolder_13 : decode cX8_leastHolder 13 = .ok (.aaload, 1) := by decide +kernel
theorem dX8_leastHolder_14 : decode cX8_leastHolder 14 = .ok (.aload_n 1, 1) := by decide +kernel
theorem dX8_leastHolder_15 : decode cX8_leastHolder 15 = .ok (.if_acmp .eq 9, 3) := by decide +kernel
theorem dX8_leastHolder_18 : decode cX8_leastHolder 18 = .ok (.iinc 2 1, 3) := by decide +kernel
theorem dX8_leastHolder_21 : decode cX8_leastHolder 21 = .ok (.goto (-19), 3) := by decide +kernel
theorem dX8_leastHolder_24 : decode cX8_leastHolder 24 = .ok (.iload_n 2, 1) := by decide +kernel
theorem dX8_leastHolder_25 : decode cX8_leastHolder 25 = .ok (.ireturn, 1) := by decide +kernel
theorem dX8_isFirstHolder_0 : decode cX8_isFirstHolder 0 = .ok (.aload_n 0, 1) := by decide +kernel
theorem dX8_isFirstHolder_1 : decode cX8_isFirstHolder 1 = .ok (.getfield 11, 3) := by decide +kernel
theorem dX8_isFirstHolder_4 : decode cX8_isFirstHolder 4 = .ok (.iload_n 1, 1) := by decide +kernel
theorem dX8_isFirstHolder_5 : decode cX8_isFirstHolder 5 = .ok (.aaload, 1) := by decide +kernel
theorem dX8_isFirstHolder_6 : decode cX8_isFirstHolder 6 = .ok (.ifnull 21, 3) := by decide +kernel
theorem dX8_isFirstHolder_9 : decode cX8_isFirstHolder 9 = .ok (.aload_n 0, 1) := by decide +kernel
theorem dX8_isFirstHolder_10 : decode cX8_isFirstHolder 10 = .ok (.aload_n 0, 1) := by decide +kernel
theorem dX8_isFirstHolder_11 : decode cX8_isFirstHolder 11 = .ok (.getfield 11, 3) := by decide +kernel
theorem dX8_isFirstHolder_14 : decode cX8_isFirstHolder 14 = .ok (.iload_n 1, 1) := by decide +kernel
theorem dX8_isFirstHolder_15 : decode cX8_isFirstHolder 15 = .ok (.aaload, 1) := by decide +kernel
theorem dX8_isFirstHolder_16 : decode cX8_isFirstHolder 16 = .ok (.invokevirtual 21, 3) := by decide +kernel
theorem dX8_isFirstHolder_19 : decode cX8_isFirstHolder 19 = .ok (.iload_n 1, 1) := by decide +kernel
theorem dX8_isFirstHolder_20 : decode cX8_isFirstHolder 20 = .ok (.if_icmp .ne 7, 3) := by decide +kernel
theorem dX8_isFirstHolder_23 : decode cX8_isFirstHolder 23 = .ok (.iconst 1, 1) := by decide +kernel
theorem dX8_isFirstHolder_24 : decode cX8_isFirstHolder 24 = .ok (.goto 4, 3) := by decide +kernel
theorem dX8_isFirstHolder_27 : decode cX8_isFirstHolder 27 = .ok (.iconst 0, 1) := by decide +kernel
theorem dX8_isFirstHolder_28 : decode cX8_isFirstHolder 28 = .ok (.ireturn, 1) := by decide +kernel
theorem dX8_copy_0 : decode cX8_copy 0 = .ok (.new 12, 3) := by decide +kernel
theorem dX8_copy_3 : decode cX8_copy 3 = .ok (.dup, 1) := by decide +kernel
theorem dX8_copy_4 : decode cX8_copy 4 = .ok (.invokespecial 25, 3) := by decide +kernel
theorem dX8_copy_7 : decode cX8_copy 7 = .ok (.astore_n 1, 1) := by decide +kernel
theorem dX8_copy_8 : decode cX8_copy 8 = .ok (.iconst 0, 1) := by decide +kernel
theorem dX8_copy_9 : decode cX8_copy 9 = .ok (.istore_n 2, 1) := by decide +kernel
theorem dX8_copy_10 : decode cX8_copy 10 = .ok (.iload_n 2, 1) := by decide +kernel
theorem dX8_copy_11 : decode cX8_copy 11 = .ok (.bipush 8, 2) := by decide +kernel
theorem dX8_copy_13 : decode cX8_copy 13 = .ok (.if_icmp .ge 75, 3) := by decide +kernel
theorem dX8_copy_16 : decode cX8_copy 16 = .ok (.aload_n 0, 1) := by decide +kernel
theorem dX8_copy_17 : decode cX8_copy 17 = .ok (.getfield 17, 3) := by decide +kernel
theorem dX8_copy_20 : decode cX8_copy 20 = .ok (.iload_n 2, 1) := by decide +kernel
theorem dX8_copy_21 : decode cX8_copy 21 = .ok (.baload, 1) := by decide +kernel
theorem dX8_copy_22 : decode cX8_copy 22 = .ok (.ifCond .eq 11, 3) := by decide +kernel
theorem dX8_copy_25 : decode cX8_copy 25 = .ok (.aload_n 1, 1) := by decide +kernel
theorem dX8_copy_26 : decode cX8_copy 26 = .ok (.iload_n 2, 1) := by decide +kernel
theorem dX8_copy_27 : decode cX8_copy 27 = .ok (.invokevirtual 26, 3) := by decide +kernel
theorem dX8_copy_30 : decode cX8_copy 30 = .ok (.goto 52, 3) := by decide +kernel
theorem dX8_copy_33 : decode cX8_copy 33 = .ok (.aload_n 0, 1) := by decide +kernel
theorem dX8_copy_34 : decode cX8_copy 34 = .ok (.iload_n 2, 1) := by decide +kernel
theorem dX8_copy_35 : decode cX8_copy 35 = .ok (.invokevirtual 30, 3) := by decide +kernel
theorem dX8_copy_38 : decode cX8_copy 38 = .ok (.ifCond .eq 20, 3) := by decide +kernel
theorem dX8_copy_41 : decode cX8_copy 41 = .ok (.aload_n 1, 1) := by decide +kernel
theorem dX8_copy_42 : decode cX8_copy 42 = .ok (.iload_n 2, 1) := by decide +kernel
theorem dX8_copy_43 : decode cX8_copy 43 = .ok (.aload_n 0, 1) := by decide +kernel
theorem dX8_copy_44 : decode cX8_copy 44 = .ok (.getfield 11, 3) := by decide +kernel
theorem dX8_copy_47 : decode cX8_copy 47 = .ok (.iload_n 2, 1) := by decide +kernel
theorem dX8_copy_48 : decode cX8_copy 48 = .ok (.aaload, 1) := by decide +kernel
theorem dX8_copy_49 : decode cX8_copy 49 = .ok (.invokevirtual 34, 3) := by decide +kernel
theorem dX8_copy_52 : decode cX8_copy 52 = .ok (.invokevirtual 38, 3) := by decide +kernel
theorem dX8_copy_55 : decode cX8_copy 55 = .ok (.goto 27, 3) := by decide +kernel
theorem dX8_copy_58 : decode cX8_copy 58 = .ok (.aload_n 0, 1) := by decide +kernel
theorem dX8_copy_59 : decode cX8_copy 59 = .ok (.getfield 11, 3) := by decide +kernel
theorem dX8_copy_62 : decode cX8_copy 62 = .ok (.iload_n 2, 1) := by decide +kernel
theorem dX8_copy_63 : decode cX8_copy 63 = .ok (.aaload, 1) := by decide +kernel
theorem dX8_copy_64 : decode cX8_copy 64 = .ok (.ifnull 18, 3) := by decide +kernel
theorem dX8_copy_67 : decode cX8_copy 67 = .ok (.aload_n 1, 1) := by decide +kernel
theorem dX8_copy_68 : decode cX8_copy 68 = .ok (.iload_n 2, 1) := by decide +kernel
theorem dX8_copy_69 : decode cX8_copy 69 = .ok (.aload_n 0, 1) := by decide +kernel
theorem dX8_copy_70 : decode cX8_copy 70 = .ok (.aload_n 0, 1) := by decide +kernel
theorem dX8_copy_71 : decode cX8_copy 71 = .ok (.getfield 11, 3) := by decide +kernel
theorem dX8_copy_74 : decode cX8_copy 74 = .ok (.iload_n 2, 1) := by decide +kernel
theorem dX8_copy_75 : decode cX8_copy 75 = .ok (.aaload, 1) := by decide +kernel
theorem dX8_copy_76 : decode cX8_copy 76 = .ok (.invokevirtual 21, 3) := by decide +kernel
theorem dX8_copy_79 : decode cX8_copy 79 = .ok (.invokevirtual 42, 3) := by decide +kernel
theorem dX8_copy_82 : decode cX8_copy 82 = .ok (.iinc 2 1, 3) := by decide +kernel
theorem dX8_copy_85 : decode cX8_copy 85 = .ok (.goto (-75), 3) := by decide +kernel
theorem dX8_copy_88 : decode cX8_copy 88 = .ok (.aload_n 1, 1) := by decide +kernel
theorem dX8_copy_89 : decode cX8_copy 89 = .ok (.areturn, 1) := by decide +kernel
theorem dX8_holders_0 : decode cX8_holders 0 = .ok (.iconst 0, 1) := by decide +kernel
theorem dX8_holders_1 : decode cX8_holders 1 = .ok (.istore_n 1, 1) := by decide +kernel
theorem dX8_holders_2 : decode cX8_holders 2 = .ok (.iconst 0, 1) := by decide +kernel
theorem dX8_holders_3 : decode cX8_holders 3 = .ok (.istore_n 2, 1) := by decide +kernel
theorem dX8_holders_4 : decode cX8_holders 4 = .ok (.iload_n 2, 1) := by decide +kernel
theorem dX8_holders_5 : decode cX8_holders 5 = .ok (.bipush 8, 2) := by decide +kernel
theorem dX8_holders_7 : decode cX8_holders 7 = .ok (.if_icmp .ge 21, 3) := by decide +kernel
theorem dX8_holders_10 : decode cX8_holders 10 = .ok (.aload_n 0, 1) := by decide +kernel
theorem dX8_holders_11 : decode cX8_holders 11 = .ok (.getfield 11, 3) := by decide +kernel
theorem dX8_holders_14 : decode cX8_holders 14 = .ok (.iload_n 2, 1) := by decide +kernel
theorem dX8_holders_15 : decode cX8_holders 15 = .ok (.aaload, 1) := by decide +kernel
theorem dX8_holders_16 : decode cX8_holders 16 = .ok (.ifnull 6, 3) := by decide +kernel
theorem dX8_holders_19 : decode cX8_holders 19 = .ok (.iinc 1 1, 3) := by decide +kernel
theorem dX8_holders_22 : decode cX8_holders 22 = .ok (.iinc 2 1, 3) := by decide +kernel
theorem dX8_holders_25 : decode cX8_holders 25 = .ok (.goto (-21), 3) := by decide +kernel
theorem dX8_holders_28 : decode cX8_holders 28 = .ok (.iload_n 1, 1) := by decide +kernel
theorem dX8_holders_29 : decode cX8_holders 29 = .ok (.ireturn, 1) := by decide +kernel
theorem dX8_distinct_0 : decode cX8_distinct 0 = .ok (.iconst 0, 1) := by decide +kernel
theorem dX8_distinct_1 : decode cX8_distinct 1 = .ok (.istore_n 1, 1) := by decide +kernel
theorem dX8_distinct_2 : decode cX8_distinct 2 = .ok (.iconst 0, 1) := by decide +kernel
theorem dX8_distinct_3 : decode cX8_distinct 3 = .ok (.istore_n 2, 1) := by decide +kernel
theorem dX8_distinct_4 : decode cX8_distinct 4 = .ok (.iload_n 2, 1) := by decide +kernel
theorem dX8_distinct_5 : decode cX8_distinct 5 = .ok (.bipush 8, 2) := by decide +kernel
theorem dX8_distinct_7 : decode cX8_distinct 7 = .ok (.if_icmp .ge 20, 3) := by decide +kernel
theorem dX8_distinct_10 : decode cX8_distinct 10 = .ok (.aload_n 0, 1) := by decide +kernel
theorem dX8_distinct_11 : decode cX8_distinct 11 = .ok (.iload_n 2, 1) := by decide +kernel
theorem dX8_distinct_12 : decode cX8_distinct 12 = .ok (.invokevirtual 30, 3) := by decide +kernel
theorem dX8_distinct_15 : decode cX8_distinct 15 = .ok (.ifCond .eq 6, 3) := by decide +kernel
theorem dX8_distinct_18 : decode cX8_distinct 18 = .ok (.iinc 1 1, 3) := by decide +kernel
theorem dX8_distinct_21 : decode cX8_distinct 21 = .ok (.iinc 2 1, 3) := by decide +kernel
theorem dX8_distinct_24 : decode cX8_distinct 24 = .ok (.goto (-20), 3) := by decide +kernel
theorem dX8_distinct_27 : decode cX8_distinct 27 = .ok (.iload_n 1, 1) := by decide +kernel
theorem dX8_distinct_28 : decode cX8_distinct 28 = .ok (.ireturn, 1) := by decide +kernel
theorem dX8_distinctCells_0 : decode cX8_distinctCells 0 = .ok (.iconst 0, 1) := by decide +kernel
theorem dX8_distinctCells_1 : decode cX8_distinctCells 1 = .ok (.istore_n 1, 1) := by decide +kernel
theorem dX8_distinctCells_2 : decode cX8_distinctCells 2 = .ok (.iconst 0, 1) := by decide +kernel
theorem dX8_distinctCells_3 : decode cX8_distinctCells 3 = .ok (.istore_n 2, 1) := by decide +kernel
theorem dX8_distinctCells_4 : decode cX8_distinctCells 4 = .ok (.iload_n 2, 1) := by decide +kernel
theorem dX8_distinctCells_5 : decode cX8_distinctCells 5 = .ok (.bipush 8, 2) := by decide +kernel
theorem dX8_distinctCells_7 : decode cX8_distinctCells 7 = .ok (.if_icmp .ge 29, 3) := by decide +kernel
theorem dX8_distinctCells_10 : decode cX8_distinctCells 10 = .ok (.aload_n 0, 1) := by decide +kernel
theorem dX8_distinctCells_11 : decode cX8_distinctCells 11 = .ok (.iload_n 2, 1) := by decide +kernel
theorem dX8_distinctCells_12 : decode cX8_distinctCells 12 = .ok (.invokevirtual 30, 3) := by decide +kernel
theorem dX8_distinctCells_15 : decode cX8_distinctCells 15 = .ok (.ifCond .eq 15, 3) := by decide +kernel
theorem dX8_distinctCells_18 : decode cX8_distinctCells 18 = .ok (.iload_n 1, 1) := by decide +kernel
theorem dX8_distinctCells_19 : decode cX8_distinctCells 19 = .ok (.aload_n 0, 1) := by decide +kernel
theorem dX8_distinctCells_20 : decode cX8_distinctCells 20 = .ok (.getfield 11, 3) := by decide +kernel
theorem dX8_distinctCells_23 : decode cX8_distinctCells 23 = .ok (.iload_n 2, 1) := by decide +kernel
theorem dX8_distinctCells_24 : decode cX8_distinctCells 24 = .ok (.aaload, 1) := by decide +kernel
theorem dX8_distinctCells_25 : decode cX8_distinctCells 25 = .ok (.getfield 46, 3) := by decide +kernel
theorem dX8_distinctCells_28 : decode cX8_distinctCells 28 = .ok (.iadd, 1) := by decide +kernel
theorem dX8_distinctCells_29 : decode cX8_distinctCells 29 = .ok (.istore_n 1, 1) := by decide +kernel
theorem dX8_distinctCells_30 : decode cX8_distinctCells 30 = .ok (.iinc 2 1, 3) := by decide +kernel
theorem dX8_distinctCells_33 : decode cX8_distinctCells 33 = .ok (.goto (-29), 3) := by decide +kernel
theorem dX8_distinctCells_36 : decode cX8_distinctCells 36 = .ok (.iload_n 1, 1) := by decide +kernel
theorem dX8_distinctCells_37 : decode cX8_distinctCells 37 = .ok (.ireturn, 1) := by decide +kernel
theorem dX8_distinctNulls_0 : decode cX8_distinctNulls 0 = .ok (.iconst 0, 1) := by decide +kernel
theorem dX8_distinctNulls_1 : decode cX8_distinctNulls 1 = .ok (.istore_n 1, 1) := by decide +kernel
theorem dX8_distinctNulls_2 : decode cX8_distinctNulls 2 = .ok (.iconst 0, 1) := by decide +kernel
theorem dX8_distinctNulls_3 : decode cX8_distinctNulls 3 = .ok (.istore_n 2, 1) := by decide +kernel
theorem dX8_distinctNulls_4 : decode cX8_distinctNulls 4 = .ok (.iload_n 2, 1) := by decide +kernel
theorem dX8_distinctNulls_5 : decode cX8_distinctNulls 5 = .ok (.bipush 8, 2) := by decide +kernel
theorem dX8_distinctNulls_7 : decode cX8_distinctNulls 7 = .ok (.if_icmp .ge 29, 3) := by decide +kernel
theorem dX8_distinctNulls_10 : decode cX8_distinctNulls 10 = .ok (.aload_n 0, 1) := by decide +kernel
theorem dX8_distinctNulls_11 : decode cX8_distinctNulls 11 = .ok (.iload_n 2, 1) := by decide +kernel
theorem dX8_distinctNulls_12 : decode cX8_distinctNulls 12 = .ok (.invokevirtual 30, 3) := by decide +kernel
theorem dX8_distinctNulls_15 : decode cX8_distinctNulls 15 = .ok (.ifCond .eq 15, 3) := by decide +kernel
theorem dX8_distinctNulls_18 : decode cX8_distinctNulls 18 = .ok (.iload_n 1, 1) := by decide +kernel
theorem dX8_distinctNulls_19 : decode cX8_distinctNulls 19 = .ok (.aload_n 0, 1) := by decide +kernel
theorem dX8_distinctNulls_20 : decode cX8_distinctNulls 20 = .ok (.getfield 11, 3) := by decide +kernel
theorem dX8_distinctNulls_23 : decode cX8_distinctNulls 23 = .ok (.iload_n 2, 1) := by decide +kernel
theorem dX8_distinctNulls_24 : decode cX8_distinctNulls 24 = .ok (.aaload, 1) := by decide +kernel
theorem dX8_distinctNulls_25 : decode cX8_distinctNulls 25 = .ok (.invokevirtual 50, 3) := by decide +kernel
theorem dX8_distinctNulls_28 : decode cX8_distinctNulls 28 = .ok (.iadd, 1) := by decide +kernel
theorem dX8_distinctNulls_29 : decode cX8_distinctNulls 29 = .ok (.istore_n 1, 1) := by decide +kernel
theorem dX8_distinctNulls_30 : decode cX8_distinctNulls 30 = .ok (.iinc 2 1, 3) := by decide +kernel
theorem dX8_distinctNulls_33 : decode cX8_distinctNulls 33 = .ok (.goto (-29), 3) := by decide +kernel
theorem dX8_distinctNulls_36 : decode cX8_distinctNulls 36 = .ok (.iload_n 1, 1) := by decide +kernel
theorem dX8_distinctNulls_37 : decode cX8_distinctNulls 37 = .ok (.ireturn, 1) := by decide +kernel
theorem dX9_init_0 : decode cX9_init 0 = .ok (.aload_n 0, 1) := by decide +kernel
theorem dX9_init_1 : decode cX9_init 1 = .ok (.invokespecial 1, 3) := by decide +kernel
theorem dX9_init_4 : decode cX9_init 4 = .ok (.aload_n 0, 1) := by decide +kernel
theorem dX9_init_5 : decode cX9_init 5 = .ok (.new 7, 3) := by decide +kernel
theorem dX9_init_8 : decode cX9_init 8 = .ok (.dup, 1) := by decide +kernel
theorem dX9_init_9 : decode cX9_init 9 = .ok (.invokespecial 9, 3) := by decide +kernel
theorem dX9_init_12 : decode cX9_init 12 = .ok (.putfield 10, 3) := by decide +kernel
theorem dX9_init_15 : decode cX9_init 15 = .ok (.aload_n 0, 1) := by decide +kernel
theorem dX9_init_16 : decode cX9_init 16 = .ok (.iconst 2, 1) := by decide +kernel
theorem dX9_init_17 : decode cX9_init 17 = .ok (.anewarray 7, 3) := by decide +kernel
theorem dX9_init_20 : decode cX9_init 20 = .ok (.putfield 16, 3) := by decide +kernel
theorem dX9_init_23 : decode cX9_init 23 = .ok (.aload_n 0, 1) := by decide +kernel
theorem dX9_init_24 : decode cX9_init 24 = .ok (.iconst 4, 1) := by decide +kernel
theorem dX9_init_25 : decode cX9_init 25 = .ok (.anewarray 20, 3) := by decide +kernel
theorem dX9_init_28 : decode cX9_init 28 = .ok (.putfield 22, 3) := by decide +kernel
theorem dX9_init_31 : decode cX9_init 31 = .ok (.aload_n 0, 1) := by decide +kernel
theorem dX9_init_32 : decode cX9_init 32 = .ok (.iconst 4, 1) := by decide +kernel
theorem dX9_init_33 : decode cX9_init 33 = .ok (.newarray .int, 2) := by decide +kernel
theorem dX9_init_35 : decode cX9_init 35 = .ok (.dup, 1) := by decide +kernel
theorem dX9_init_36 : decode cX9_init 36 = .ok (.iconst 0, 1) := by decide +kernel
theorem dX9_init_37 : decode cX9_init 37 = .ok (.iconst 0, 1) := by decide +kernel
theorem dX9_init_38 : decode cX9_init 38 = .ok (.iastore, 1) := by decide +kernel
theorem dX9_init_39 : decode cX9_init 39 = .ok (.dup, 1) := by decide +kernel
theorem dX9_init_40 : decode cX9_init 40 = .ok (.iconst 1, 1) := by decide +kernel
theorem dX9_init_41 : decode cX9_init 41 = .ok (.iconst 3, 1) := by decide +kernel
theorem dX9_init_42 : decode cX9_init 42 = .ok (.iastore, 1) := by decide +kernel
theorem dX9_init_43 : decode cX9_init 43 = .ok (.dup, 1) := by decide +kernel
theorem dX9_init_44 : decode cX9_init 44 = .ok (.iconst 2, 1) := by decide +kernel
theorem dX9_init_45 : decode cX9_init 45 = .ok (.iconst 2, 1) := by decide +kernel
theorem dX9_init_46 : decode cX9_init 46 = .ok (.iastore, 1) := by decide +kernel
theorem dX9_init_47 : decode cX9_init 47 = .ok (.dup, 1) := by decide +kernel
theorem dX9_init_48 : decode cX9_init 48 = .ok (.iconst 3, 1) := by decide +kernel
theorem dX9_init_49 : decode cX9_init 49 = .ok (.iconst 1, 1) := by decide +kernel
theorem dX9_init_50 : decode cX9_init 50 = .ok (.iastore, 1) := by decide +kernel
theorem dX9_init_51 : decode cX9_init 51 = .ok (.putfield 26, 3) := by decide +kernel
theorem dX9_init_54 : decode cX9_init 54 = .ok (.aload_n 0, 1) := by decide +kernel
theorem dX9_init_55 : decode cX9_init 55 = .ok (.new 30, 3) := by decide +kernel
theorem dX9_init_58 : decode cX9_init 58 = .ok (.dup, 1) := by decide +kernel
theorem dX9_init_59 : decode cX9_init 59 = .ok (.invokespecial 32, 3) := by decide +kernel
theorem dX9_init_62 : decode cX9_init 62 = .ok (.putfield 33, 3) := by decide +kernel
theorem dX9_init_65 : decode cX9_init 65 = .ok (.aload_n 0, 1) := by decide +kernel
theorem dX9_init_66 : decode cX9_init 66 = .ok (.new 37, 3) := by decide +kernel
theorem dX9_init_69 : decode cX9_init 69 = .ok (.dup, 1) := by decide +kernel
theorem dX9_init_70 : decode cX9_init 70 = .ok (.bipush 9, 2) := by decide +kernel
theorem dX9_init_72 : decode cX9_init 72 = .ok (.iconst 1, 1) := by decide +kernel
theorem dX9_init_73 : decode cX9_init 73 = .ok (.invokespecial 39, 3) := by decide +kernel
theorem dX9_init_76 : decode cX9_init 76 = .ok (.putfield 42, 3) := by decide +kernel
theorem dX9_init_79 : decode cX9_init 79 = .ok (.return_, 1) := by decide +kernel
theorem dX9_record_0 : decode cX9_record 0 = .ok (.iload_n 1, 1) := by decide +kernel
theorem dX9_record_1 : decode cX9_record 1 = .ok (.invokestatic 46, 3) := by decide +kernel
theorem dX9_record_4 : decode cX9_record 4 = .ok (.ifCond .eq 13, 3) := by decide +kernel
theorem dX9_record_7 : decode cX9_record 7 = .ok (.iload_n 2, 1) := by decide +kernel
theorem dX9_record_8 : decode cX9_record 8 = .ok (.iconst 0, 1) := by decide +kernel
theorem dX9_record_9 : decode cX9_record 9 = .ok (.bipush 12, 2) := by decide +kernel
theorem dX9_record_11 : decode cX9_record 11 = .ok (.invokestatic 50, 3) := by decide +kernel
theorem dX9_record_14 : decode cX9_record 14 = .ok (.ifCond .ne 5, 3) := by decide +kernel
theorem dX9_record_17 : decode cX9_record 17 = .ok (.iconst (-1), 1) := by decide +kernel
theorem dX9_record_18 : decode cX9_record 18 = .ok (.ireturn, 1) := by decide +kernel
theorem dX9_record_19 : decode cX9_record 19 = .ok (.iload_n 2, 1) := by decide +kernel
theorem dX9_record_20 : decode cX9_record 20 = .ok (.bipush 12, 2) := by decide +kernel
theorem dX9_record_22 : decode cX9_record 22 = .ok (.if_icmp .ne 14, 3) := by decide +kernel
theorem dX9_record_25 : decode cX9_record 25 = .ok (.aload_n 0, 1) := by decide +kernel
theorem dX9_record_26 : decode cX9_record 26 = .ok (.getfield 10, 3) := by decide +kernel
theorem dX9_record_29 : decode cX9_record 29 = .ok (.iload_n 1, 1) := by decide +kernel
theorem dX9_record_30 : decode cX9_record 30 = .ok (.aconst_null, 1) := by decide +kernel
theorem dX9_record_31 : decode cX9_record 31 = .ok (.invokevirtual 54, 3) := by decide +kernel
theorem dX9_record_34 : decode cX9_record 34 = .ok (.iconst 1, 1) := by decide +kernel
theorem dX9_record_35 : decode cX9_record 35 = .ok (.ireturn, 1) := by decide +kernel
theorem dX9_record_36 : decode cX9_record 36 = .ok (.iload_n 2, 1) := by decide +kernel
theorem dX9_record_37 : decode cX9_record 37 = .ok (.bipush 11, 2) := by decide +kernel
theorem dX9_record_39 : decode cX9_record 39 = .ok (.if_icmp .ne 13, 3) := by decide +kernel
theorem dX9_record_42 : decode cX9_record 42 = .ok (.aload_n 0, 1) := by decide +kernel
theorem dX9_record_43 : decode cX9_record 43 = .ok (.getfield 10, 3) := by decide +kernel
theorem dX9_record_46 : decode cX9_record 46 = .ok (.iload_n 1, 1) := by decide +kernel
theorem dX9_record_47 : decode cX9_record 47 = .ok (.invokevirtual 58, 3) := by decide +kernel
theorem dX9_record_50 : decode cX9_record 50 = .ok (.iconst 1, 1) := by decide +kernel
theorem dX9_record_51 : decode cX9_record 51 = .ok (.ireturn, 1) := by decide +kernel
theorem dX9_record_52 : decode cX9_record 52 = .ok (.iload_n 3, 1) := by decide +kernel
theorem dX9_record_53 : decode cX9_record 53 = .ok (.bipush 20, 2) := by decide +kernel
theorem dX9_record_55 : decode cX9_record 55 = .ok (.if_icmp .le 5, 3) := by decide +kernel
theorem dX9_record_58 : decode cX9_record 58 = .ok (.iconst (-1), 1) := by decide +kernel
theorem dX9_record_59 : decode cX9_record 59 = .ok (.ireturn, 1) := by decide +kernel
theorem dX9_record_60 : decode cX9_record 60 = .ok (.iload_n 3, 1) := by decide +kernel
theorem dX9_record_61 : decode cX9_record 61 = .ok (.ifCond .ge 9, 3) := by decide +kernel
theorem dX9_record_64 : decode cX9_record 64 = .ok (.bipush 6, 2) := by decide +kernel
theorem dX9_record_66 : decode cX9_record 66 = .ok (.invokestatic 62, 3) := by decide +kernel
theorem dX9_record_69 : decode cX9_record 69 = .ok (.ireturn, 1) := by decide +kernel
theorem dX9_record_70 : decode cX9_record 70 = .ok (.aload_n 0, 1) := by decide +kernel
theorem dX9_record_71 : decode cX9_record 71 = .ok (.getfield 10, 3) := by decide +kernel
theorem dX9_record_74 : decode cX9_record 74 = .ok (.iload_n 1, 1) := by decide +kernel
theorem dX9_record_75 : decode cX9_record 75 = .ok (.new 37, 3) := by decide +kernel
theorem dX9_record_78 : decode cX9_record 78 = .ok (.dup, 1) := by decide +kernel
theorem dX9_record_79 : decode cX9_record 79 = .ok (.iload_n 2, 1) := by decide +kernel
theorem dX9_record_80 : decode cX9_record 80 = .ok (.iload_n 3, 1) := by decide +kernel
theorem dX9_record_81 : decode cX9_record 81 = .ok (.invokespecial 39, 3) := by decide +kernel
theorem dX9_record_84 : decode cX9_record 84 = .ok (.invokevirtual 54, 3) := by decide +kernel
theorem dX9_record_87 : decode cX9_record 87 = .ok (.iconst 1, 1) := by decide +kernel
theorem dX9_record_88 : decode cX9_record 88 = .ok (.ireturn, 1) := by decide +kernel
theorem dX9_share_0 : decode cX9_share 0 = .ok (.iload_n 1, 1) := by decide +kernel
theorem dX9_share_1 : decode cX9_share 1 = .ok (.invokestatic 46, 3) := by decide +kernel
theorem dX9_share_4 : decode cX9_share 4 = .ok (.ifCond .eq 10, 3) := by decide +kernel
theorem dX9_share_7 : decode cX9_share 7 = .ok (.iload_n 2, 1) := by decide +kernel
theorem dX9_share_8 : decode cX9_share 8 = .ok (.invokestatic 46, 3) := by decide +kernel
theorem dX9_share_11 : decode cX9_share 11 = .ok (.ifCond .ne 5, 3) := by decide +kernel
theorem dX9_share_14 : decode cX9_share 14 = .ok (.iconst (-1), 1) := by decide +kernel
theorem dX9_share_15 : decode cX9_share 15 = .ok (.ireturn, 1) := by decide +kernel
theorem dX9_share_16 : decode cX9_share 16 = .ok (.aload_n 0, 1) := by decide +kernel
theorem dX9_share_17 : decode cX9_share 17 = .ok (.getfield 10, 3) := by decide +kernel
theorem dX9_share_20 : decode cX9_share 20 = .ok (.iload_n 1, 1) := by decide +kernel
theorem dX9_share_21 : decode cX9_share 21 = .ok (.iload_n 2, 1) := by decide +kernel
theorem dX9_share_22 : decode cX9_share 22 = .ok (.invokevirtual 66, 3) := by decide +kernel
theorem dX9_share_25 : decode cX9_share 25 = .ok (.iconst 1, 1) := by decide +kernel
theorem dX9_share_26 : decode cX9_share 26 = .ok (.ireturn, 1) := by decide +kernel
theorem dX9_kind_0 : decode cX9_kind 0 = .ok (.iload_n 1, 1) := by decide +kernel
theorem dX9_kind_1 : decode cX9_kind 1 = .ok (.invokestatic 46, 3) := by decide +kernel
theorem dX9_kind_4 : decode cX9_kind 4 = .ok (.ifCond .eq 12, 3) := by decide +kernel
theorem dX9_kind_7 : decode cX9_kind 7 = .ok (.iload_n 2, 1) := by decide +kernel
theorem dX9_kind_8 : decode cX9_kind 8 = .ok (.iconst 0, 1) := by decide +kernel
theorem dX9_kind_9 : decode cX9_kind 9 = .ok (.iconst 1, 1) := by decide +kernel
theorem dX9_kind_10 : decode cX9_kind 10 = .ok (.invokestatic 50, 3) := by decide +kernel
theorem dX9_kind_13 : decode cX9_kind 13 = .ok (.ifCond .ne 5, 3) := by decide +kernel
theorem dX9_kind_16 : decode cX9_kind 16 = .ok (.iconst (-1), 1) := by decide +kernel
theorem dX9_kind_17 : decode cX9_kind 17 = .ok (.ireturn, 1) := by decide +kernel
theorem dX9_kind_18 : decode cX9_kind 18 = .ok (.aload_n 0, 1) := by decide +kernel
theorem dX9_kind_19 : decode cX9_kind 19 = .ok (.getfield 10, 3) := by decide +kernel
theorem dX9_kind_22 : decode cX9_kind 22 = .ok (.getfield 69, 3) := by decide +kernel
theorem dX9_kind_25 : decode cX9_kind 25 = .ok (.iload_n 1, 1) := by decide +kernel
theorem dX9_kind_26 : decode cX9_kind 26 = .ok (.aaload, 1) := by decide +kernel
theorem dX9_kind_27 : decode cX9_kind 27 = .ok (.astore_n 3, 1) := by decide +kernel
theorem dX9_kind_28 : decode cX9_kind 28 = .ok (.iload_n 2, 1) := by decide +kernel
theorem dX9_kind_29 : decode cX9_kind 29 = .ok (.iconst 1, 1) := by decide +kernel
theorem dX9_kind_30 : decode cX9_kind 30 = .ok (.if_icmp .ne 21, 3) := by decide +kernel
theorem dX9_kind_33 : decode cX9_kind 33 = .ok (.aload_n 3, 1) := by decide +kernel
theorem dX9_kind_34 : decode cX9_kind 34 = .ok (.ifnonnull 8, 3) := by decide +kernel
theorem dX9_kind_37 : decode cX9_kind 37 = .ok (.bipush (-4), 2) := by decide +kernel
theorem dX9_kind_39 : decode cX9_kind 39 = .ok (.goto 11, 3) := by decide +kernel
theorem dX9_kind_42 : decode cX9_kind 42 = .ok (.aload_n 0, 1) := by decide +kernel
theorem dX9_kind_43 : decode cX9_kind 43 = .ok (.getfield 10, 3) := by decide +kernel
theorem dX9_kind_46 : decode cX9_kind 46 = .ok (.aload_n 3, 1) := by decide +kernel
theorem dX9_kind_47 : decode cX9_kind 47 = .ok (.invokevirtual 73, 3) := by decide +kernel
theorem dX9_kind_50 : decode cX9_kind 50 = .ok (.ireturn, 1) := by decide +kernel
theorem dX9_kind_51 : decode cX9_kind 51 = .ok (.aload_n 3, 1) := by decide +kernel
theorem dX9_kind_52 : decode cX9_kind 52 = .ok (.ifnull 8, 3) := by decide +kernel
theorem dX9_kind_55 : decode cX9_kind 55 = .ok (.aload_n 3, 1) := by decide +kernel
theorem dX9_kind_56 : decode cX9_kind 56 = .ok (.getfield 77, 3) := by decide +kernel
theorem dX9_kind_59 : decode cX9_kind 59 = .ok (.ireturn, 1) := by decide +kernel
theorem dX9_kind_60 : decode cX9_kind 60 = .ok (.aload_n 0, 1) := by decide +kernel
theorem dX9_kind_61 : decode cX9_kind 61 = .ok (.getfield 10, 3) := by decide +kernel
theorem dX9_kind_64 : decode cX9_kind 64 = .ok (.getfield 81, 3) := by decide +kernel
theorem dX9_kind_67 : decode cX9_kind 67 = .ok (.iload_n 1, 1) := by decide +kernel
theorem dX9_kind_68 : decode cX9_kind 68 = .ok (.baload, 1) := by decide +kernel
theorem dX9_kind_69 : decode cX9_kind 69 = .ok (.ifCond .eq 8, 3) := by decide +kernel
theorem dX9_kind_72 : decode cX9_kind 72 = .ok (.bipush 11, 2) := by decide +kernel
theorem dX9_kind_74 : decode cX9_kind 74 = .ok (.goto 5, 3) := by decide +kernel
theorem dX9_kind_77 : decode cX9_kind 77 = .ok (.bipush 12, 2) := by decide +kernel
theorem dX9_kind_79 : decode cX9_kind 79 = .ok (.ireturn, 1) := by decide +kernel
theorem dX9_size_0 : decode cX9_size 0 = .ok (.iload_n 1, 1) := by decide +kernel
theorem dX9_size_1 : decode cX9_size 1 = .ok (.invokestatic 46, 3) := by decide +kernel
theorem dX9_size_4 : decode cX9_size 4 = .ok (.ifCond .ne 5, 3) := by decide +kernel
theorem dX9_size_7 : decode cX9_size 7 = .ok (.iconst (-1), 1) := by decide +kernel
theorem dX9_size_8 : decode cX9_size 8 = .ok (.ireturn, 1) := by decide +kernel
theorem dX9_size_9 : decode cX9_size 9 = .ok (.aload_n 0, 1) := by decide +kernel
theorem dX9_size_10 : decode cX9_size 10 = .ok (.getfield 10, 3) := by decide +kernel
theorem dX9_size_13 : decode cX9_size 13 = .ok (.getfield 69, 3) := by decide +kernel
theorem dX9_size_16 : decode cX9_size 16 = .ok (.iload_n 1, 1) := by decide +kernel
theorem dX9_size_17 : decode cX9_size 17 = .ok (.aaload, 1) := by decide +kernel
theorem dX9_size_18 : decode cX9_size 18 = .ok (.astore_n 2, 1) := by decide +kernel
theorem dX9_size_19 : decode cX9_size 19 = .ok (.aload_n 2, 1) := by decide +kernel
theorem dX9_size_20 : decode cX9_size 20 = .ok (.ifnonnull 17, 3) := by decide +kernel
theorem dX9_size_23 : decode cX9_size 23 = .ok (.aload_n 0, 1) := by decide +kernel
theorem dX9_size_24 : decode cX9_size 24 = .ok (.getfield 10, 3) := by decide +kernel
theorem dX9_size_27 : decode cX9_size 27 = .ok (.iload_n 1, 1) := by decide +kernel
theorem dX9_size_28 : decode cX9_size 28 = .ok (.invokevirtual 85, 3) := by decide +kernel
theorem dX9_size_31 : decode cX9_size 31 = .ok (.invokestatic 62, 3) := by decide +kernel
theorem dX9_size_34 : decode cX9_size 34 = .ok (.goto 7, 3) := by decide +kernel
theorem dX9_size_37 : decode cX9_size 37 = .ok (.aload_n 2, 1) := by decide +kernel
theorem dX9_size_38 : decode cX9_size 38 = .ok (.getfield 88, 3) := by decide +kernel
theorem dX9_size_41 : decode cX9_size 41 = .ok (.ireturn, 1) := by decide +kernel
theorem dX9_ask_0 : decode cX9_ask 0 = .ok (.iload_n 1, 1) := by decide +kernel
theorem dX9_ask_1 : decode cX9_ask 1 = .ok (.invokestatic 46, 3) := by decide +kernel
theorem dX9_ask_4 : decode cX9_ask 4 = .ok (.ifCond .eq 13, 3) := by decide +kernel
theorem dX9_ask_7 : decode cX9_ask 7 = .ok (.iload_n 3, 1) := by decide +kernel
theorem dX9_ask_8 : decode cX9_ask 8 = .ok (.iconst 0, 1) := by decide +kernel
theorem dX9_ask_9 : decode cX9_ask 9 = .ok (.bipush 7, 2) := by decide +kernel
theorem dX9_ask_11 : decode cX9_ask 11 = .ok (.invokestatic 50, 3) := by decide +kernel
theorem dX9_ask_14 : decode cX9_ask 14 = .ok (.ifCond .ne 5, 3) := by decide +kernel
theorem dX9_ask_17 : decode cX9_ask 17 = .ok (.iconst (-1), 1) := by decide +kernel
theorem dX9_ask_18 : decode cX9_ask 18 = .ok (.ireturn, 1) := by decide +kernel
theorem dX9_ask_19 : decode cX9_ask 19 = .ok (.aload_n 0, 1) := by decide +kernel
theorem dX9_ask_20 : decode cX9_ask 20 = .ok (.iload_n 1, 1) := by decide +kernel
theorem dX9_ask_21 : decode cX9_ask 21 = .ok (.iload_n 2, 1) := by decide +kernel
theorem dX9_ask_22 : decode cX9_ask 22 = .ok (.invokevirtual 91, 3) := by decide +kernel
theorem dX9_ask_25 : decode cX9_ask 25 = .ok (.istore 4, 2) := by decide +kernel
theorem dX9_ask_27 : decode cX9_ask 27 = .ok (.iload 4, 2) := by decide +kernel
theorem dX9_ask_29 : decode cX9_ask 29 = .ok (.ifCond .eq 9, 3) := by decide +kernel
theorem dX9_ask_32 : decode cX9_ask 32 = .ok (.iload 4, 2) := by decide +kernel
theorem dX9_ask_34 : decode cX9_ask 34 = .ok (.invokestatic 62, 3) := by decide +kernel
theorem dX9_ask_37 : decode cX9_ask 37 = .ok (.ireturn, 1) := by decide +kernel
theorem dX9_ask_38 : decode cX9_ask 38 = .ok (.aload_n 0, 1) := by decide +kernel
theorem dX9_ask_39 : decode cX9_ask 39 = .ok (.getfield 10, 3) := by decide +kernel
theorem dX9_ask_42 : decode cX9_ask 42 = .ok (.getfield 69, 3) := by decide +kernel
theorem dX9_ask_45 : decode cX9_ask 45 = .ok (.iload_n 1, 1) := by decide +kernel
theorem dX9_ask_46 : decode cX9_ask 46 = .ok (.aaload, 1) := by decide +kernel
theorem dX9_ask_47 : decode cX9_ask 47 = .ok (.astore 5, 2) := by decide +kernel
theorem dX9_ask_49 : decode cX9_ask 49 = .ok (.aload 5, 2) := by decide +kernel
theorem dX9_ask_51 : decode cX9_ask 51 = .ok (.iload_n 3, 1) := by decide +kernel
theorem dX9_ask_52 : decode cX9_ask 52 = .ok (.invokestatic 95, 3) := by decide +kernel
theorem dX9_ask_55 : decode cX9_ask 55 = .ok (.istore 4, 2) := by decide +kernel
theorem dX9_ask_57 : decode cX9_ask 57 = .ok (.iload 4, 2) := by decide +kernel
theorem dX9_ask_59 : decode cX9_ask 59 = .ok (.ifCond .eq 9, 3) := by decide +kernel
theorem dX9_ask_62 : decode cX9_ask 62 = .ok (.iload 4, 2) := by decide +kernel
theorem dX9_ask_64 : decode cX9_ask 64 = .ok (.invokestatic 62, 3) := by decide +kernel
theorem dX9_ask_67 : decode cX9_ask 67 = .ok (.ireturn, 1) := by decide +kernel
theorem dX9_ask_68 : decode cX9_ask 68 = .ok (.aload_n 0, 1) := by decide +kernel
theorem dX9_ask_69 : decode cX9_ask 69 = .ok (.aload 5, 2) := by decide +kernel
theorem dX9_ask_71 : decode cX9_ask 71 = .ok (.iload_n 2, 1) := by decide +kernel
theorem dX9_ask_72 : decode cX9_ask 72 = .ok (.iload_n 3, 1) := by decide +kernel
theorem dX9_ask_73 : decode cX9_ask 73 = .ok (.invokevirtual 99, 3) := by decide +kernel
theorem dX9_ask_76 : decode cX9_ask 76 = .ok (.putfield 103, 3) := by decide +kernel
theorem dX9_ask_79 : decode cX9_ask 79 = .ok (.iconst 1, 1) := by decide +kernel
theorem dX9_ask_80 : decode cX9_ask 80 = .ok (.ireturn, 1) := by decide +kernel
theorem dX9_box_0 : decode cX9_box 0 = .ok (.iload_n 1, 1) := by decide +kernel
theorem dX9_box_1 : decode cX9_box 1 = .ok (.invokestatic 46, 3) := by decide +kernel
theorem dX9_box_4 : decode cX9_box 4 = .ok (.ifCond .ne 5, 3) := by decide +kernel
theorem dX9_box_7 : decode cX9_box 7 = .ok (.iconst (-1), 1) := by decide +kernel
theorem dX9_box_8 : decode cX9_box 8 = .ok (.ireturn, 1) := by decide +kernel
theorem dX9_box_9 : decode cX9_box 9 = .ok (.aload_n 0, 1) := by decide +kernel
theorem dX9_box_10 : decode cX9_box 10 = .ok (.iload_n 1, 1) := by decide +kernel
theorem dX9_box_11 : decode cX9_box 11 = .ok (.iload_n 2, 1) := by decide +kernel
theorem dX9_box_12 : decode cX9_box 12 = .ok (.invokevirtual 91, 3) := by decide +kernel
theorem dX9_box_15 : decode cX9_box 15 = .ok (.istore_n 3, 1) := by decide +kernel
theorem dX9_box_16 : decode cX9_box 16 = .ok (.iload_n 3, 1) := by decide +kernel
theorem dX9_box_17 : decode cX9_box 17 = .ok (.ifCond .eq 8, 3) := by decide +kernel
theorem dX9_box_20 : decode cX9_box 20 = .ok (.iload_n 3, 1) := by decide +kernel
theorem dX9_box_21 : decode cX9_box 21 = .ok (.invokestatic 62, 3) := by decide +kernel
theorem dX9_box_24 : decode cX9_box 24 = .ok (.ireturn, 1) := by decide +kernel
theorem dX9_box_25 : decode cX9_box 25 = .ok (.aload_n 0, 1) := by decide +kernel
theorem dX9_box_26 : decode cX9_box 26 = .ok (.getfield 10, 3) := by decide +kernel
theorem dX9_box_29 : decode cX9_box 29 = .ok (.getfield 69, 3) := by decide +kernel
theorem dX9_box_32 : decode cX9_box 32 = .ok (.iload_n 1, 1) := by decide +kernel
theorem dX9_box_33 : decode cX9_box 33 = .ok (.aaload, 1) := by decide +kernel
theorem dX9_box_34 : decode cX9_box 34 = .ok (.astore 4, 2) := by decide +kernel
theorem dX9_box_36 : decode cX9_box 36 = .ok (.aload 4, 2) := by decide +kernel
theorem dX9_box_38 : decode cX9_box 38 = .ok (.getfield 107, 3) := by decide +kernel
theorem dX9_box_41 : decode cX9_box 41 = .ok (.iload_n 2, 1) := by decide +kernel
theorem dX9_box_42 : decode cX9_box 42 = .ok (.iaload, 1) := by decide +kernel
theorem dX9_box_43 : decode cX9_box 43 = .ok (.istore 5, 2) := by decide +kernel
theorem dX9_box_45 : decode cX9_box 45 = .ok (.aload_n 0, 1) := by decide +kernel
theorem dX9_box_46 : decode cX9_box 46 = .ok (.aload 4, 2) := by decide +kernel
theorem dX9_box_48 : decode cX9_box 48 = .ok (.iload_n 2, 1) := by decide +kernel
theorem dX9_box_49 : decode cX9_box 49 = .ok (.iload 5, 2) := by decide +kernel
theorem dX9_box_51 : decode cX9_box 51 = .ok (.invokevirtual 99, 3) := by decide +kernel
theorem dX9_box_54 : decode cX9_box 54 = .ok (.putfield 103, 3) := by decide +kernel
theorem dX9_box_57 : decode cX9_box 57 = .ok (.iload 5, 2) := by decide +kernel
theorem dX9_box_59 : decode cX9_box 59 = .ok (.ireturn, 1) := by decide +kernel
theorem dX9_got_0 : decode cX9_got 0 = .ok (.aload_n 0, 1) := by decide +kernel
theorem dX9_got_1 : decode cX9_got 1 = .ok (.getfield 103, 3) := by decide +kernel
theorem dX9_got_4 : decode cX9_got 4 = .ok (.lreturn, 1) := by decide +kernel
theorem dX9_put_0 : decode cX9_put 0 = .ok (.iload_n 1, 1) := by decide +kernel
theorem dX9_put_1 : decode cX9_put 1 = .ok (.invokestatic 46, 3) := by decide +kernel
theorem dX9_put_4 : decode cX9_put 4 = .ok (.ifCond .eq 13, 3) := by decide +kernel
theorem dX9_put_7 : decode cX9_put 7 = .ok (.iload_n 3, 1) := by decide +kernel
theorem dX9_put_8 : decode cX9_put 8 = .ok (.iconst 0, 1) := by decide +kernel
theorem dX9_put_9 : decode cX9_put 9 = .ok (.bipush 7, 2) := by decide +kernel
theorem dX9_put_11 : decode cX9_put 11 = .ok (.invokestatic 50, 3) := by decide +kernel
theorem dX9_put_14 : decode cX9_put 14 = .ok (.ifCond .ne 5, 3) := by decide +kernel
theorem dX9_put_17 : decode cX9_put 17 = .ok (.iconst (-1), 1) := by decide +kernel
theorem dX9_put_18 : decode cX9_put 18 = .ok (.ireturn, 1) := by decide +kernel
theorem dX9_put_19 : decode cX9_put 19 = .ok (.aload_n 0, 1) := by decide +kernel
theorem dX9_put_20 : decode cX9_put 20 = .ok (.getfield 42, 3) := by decide +kernel
theorem dX9_put_23 : decode cX9_put 23 = .ok (.iconst 0, 1) := by decide +kernel
theorem dX9_put_24 : decode cX9_put 24 = .ok (.iload_n 3, 1) := by decide +kernel
theorem dX9_put_25 : decode cX9_put 25 = .ok (.iload 4, 2) := by decide +kernel
theorem dX9_put_27 : decode cX9_put 27 = .ok (.invokevirtual 110, 3) := by decide +kernel
theorem dX9_put_30 : decode cX9_put 30 = .ok (.aload_n 0, 1) := by decide +kernel
theorem dX9_put_31 : decode cX9_put 31 = .ok (.iload_n 1, 1) := by decide +kernel
theorem dX9_put_32 : decode cX9_put 32 = .ok (.iload_n 2, 1) := by decide +kernel
theorem dX9_put_33 : decode cX9_put 33 = .ok (.invokevirtual 114, 3) := by decide +kernel
theorem dX9_put_36 : decode cX9_put 36 = .ok (.istore 5, 2) := by decide +kernel
theorem dX9_put_38 : decode cX9_put 38 = .ok (.iload 5, 2) := by decide +kernel
theorem dX9_put_40 : decode cX9_put 40 = .ok (.ifCond .ne 7, 3) := by decide +kernel
theorem dX9_put_43 : decode cX9_put 43 = .ok (.iconst 1, 1) := by decide +kernel
theorem dX9_put_44 : decode cX9_put 44 = .ok (.goto 8, 3) := by decide +kernel
theorem dX9_put_47 : decode cX9_put 47 = .ok (.iload 5, 2) := by decide +kernel
theorem dX9_put_49 : decode cX9_put 49 = .ok (.invokestatic 62, 3) := by decide +kernel
theorem dX9_put_52 : decode cX9_put 52 = .ok (.ireturn, 1) := by decide +kernel
theorem dX9_lay_0 : decode cX9_lay 0 = .ok (.iload_n 1, 1) := by decide +kernel
theorem dX9_lay_1 : decode cX9_lay 1 = .ok (.invokestatic 46, 3) := by decide +kernel
theorem dX9_lay_4 : decode cX9_lay 4 = .ok (.ifCond .eq 13, 3) := by decide +kernel
theorem dX9_lay_7 : decode cX9_lay 7 = .ok (.iload_n 3, 1) := by decide +kernel
theorem dX9_lay_8 : decode cX9_lay 8 = .ok (.iconst 0, 1) := by decide +kernel
theorem dX9_lay_9 : decode cX9_lay 9 = .ok (.bipush 10, 2) := by decide +kernel
theorem dX9_lay_11 : decode cX9_lay 11 = .ok (.invokestatic 50, 3) := by decide +kernel
theorem dX9_lay_14 : decode cX9_lay 14 = .ok (.ifCond .ne 5, 3) := by decide +kernel
theorem dX9_lay_17 : decode cX9_lay 17 = .ok (.iconst (-1), 1) := by decide +kernel
theorem dX9_lay_18 : decode cX9_lay 18 = .ok (.ireturn, 1) := by decide +kernel
theorem dX9_lay_19 : decode cX9_lay 19 = .ok (.aload_n 0, 1) := by decide +kernel
theorem dX9_lay_20 : decode cX9_lay 20 = .ok (.getfield 42, 3) := by decide +kernel
theorem dX9_lay_23 : decode cX9_lay 23 = .ok (.iconst 0, 1) := by decide +kernel
theorem dX9_lay_24 : decode cX9_lay 24 = .ok (.iload_n 3, 1) := by decide +kernel
theorem dX9_lay_25 : decode cX9_lay 25 = .ok (.iload 4, 2) := by decide +kernel
theorem dX9_lay_27 : decode cX9_lay 27 = .ok (.invokevirtual 110, 3) := by decide +kernel
theorem dX9_lay_30 : decode cX9_lay 30 = .ok (.aload_n 0, 1) := by decide +kernel
theorem dX9_lay_31 : decode cX9_lay 31 = .ok (.iload_n 1, 1) := by decide +kernel
theorem dX9_lay_32 : decode cX9_lay 32 = .ok (.iload_n 2, 1) := by decide +kernel
theorem dX9_lay_33 : decode cX9_lay 33 = .ok (.aload_n 0, 1) := by decide +kernel
theorem dX9_lay_34 : decode cX9_lay 34 = .ok (.getfield 42, 3) := by decide +kernel
theorem dX9_lay_37 : decode cX9_lay 37 = .ok (.iconst 0, 1) := by decide +kernel
theorem dX9_lay_38 : decode cX9_lay 38 = .ok (.invokevirtual 117, 3) := by decide +kernel
theorem dX9_lay_41 : decode cX9_lay 41 = .ok (.istore 5, 2) := by decide +kernel
theorem dX9_lay_43 : decode cX9_lay 43 = .ok (.iload 5, 2) := by decide +kernel
theorem dX9_lay_45 : decode cX9_lay 45 = .ok (.ifCond .ne 7, 3) := by decide +kernel
theorem dX9_lay_48 : decode cX9_lay 48 = .ok (.iconst 1, 1) := by decide +kernel
theorem dX9_lay_49 : decode cX9_lay 49 = .ok (.goto 8, 3) := by decide +kernel
theorem dX9_lay_52 : decode cX9_lay 52 = .ok (.iload 5, 2) := by decide +kernel
theorem dX9_lay_54 : decode cX9_lay 54 = .ok (.invokestatic 62, 3) := by decide +kernel
theorem dX9_lay_57 : decode cX9_lay 57 = .ok (.ireturn, 1) := by decide +kernel
theorem dX9_fill_0 : decode cX9_fill 0 = .ok (.iload_n 1, 1) := by decide +kernel
theorem dX9_fill_1 : decode cX9_fill 1 = .ok (.invokestatic 46, 3) := by decide +kernel
theorem dX9_fill_4 : decode cX9_fill 4 = .ok (.ifCond .eq 24, 3) := by decide +kernel
theorem dX9_fill_7 : decode cX9_fill 7 = .ok (.iload_n 3, 1) := by decide +kernel
theorem dX9_fill_8 : decode cX9_fill 8 = .ok (.iconst 0, 1) := by decide +kernel
theorem dX9_fill_9 : decode cX9_fill 9 = .ok (.bipush 20, 2) := by decide +kernel
theorem dX9_fill_11 : decode cX9_fill 11 = .ok (.invokestatic 50, 3) := by decide +kernel
theorem dX9_fill_14 : decode cX9_fill 14 = .ok (.ifCond .eq 14, 3) := by decide +kernel
theorem dX9_fill_17 : decode cX9_fill 17 = .ok (.iload 4, 2) := by decide +kernel
theorem dX9_fill_19 : decode cX9_fill 19 = .ok (.iconst 0, 1) := by decide +kernel
theorem dX9_fill_20 : decode cX9_fill 20 = .ok (.bipush 7, 2) := by decide +kernel
theorem dX9_fill_22 : decode cX9_fill 22 = .ok (.invokestatic 50, 3) := by decide +kernel
theorem dX9_fill_25 : decode cX9_fill 25 = .ok (.ifCond .ne 5, 3) := by decide +kernel
theorem dX9_fill_28 : decode cX9_fill 28 = .ok (.iconst (-1), 1) := by decide +kernel
theorem dX9_fill_29 : decode cX9_fill 29 = .ok (.ireturn, 1) := by decide +kernel
theorem dX9_fill_30 : decode cX9_fill 30 = .ok (.aload_n 0, 1) := by decide +kernel
theorem dX9_fill_31 : decode cX9_fill 31 = .ok (.getfield 42, 3) := by decide +kernel
theorem dX9_fill_34 : decode cX9_fill 34 = .ok (.iconst 0, 1) := by decide +kernel
theorem dX9_fill_35 : decode cX9_fill 35 = .ok (.iload 4, 2) := by decide +kernel
theorem dX9_fill_37 : decode cX9_fill 37 = .ok (.iload 5, 2) := by decide +kernel
theorem dX9_fill_39 : decode cX9_fill 39 = .ok (.invokevirtual 110, 3) := by decide +kernel
theorem dX9_fill_42 : decode cX9_fill 42 = .ok (.aload_n 0, 1) := by decide +kernel
theorem dX9_fill_43 : decode cX9_fill 43 = .ok (.iconst 0, 1) := by decide +kernel
theorem dX9_fill_44 : decode cX9_fill 44 = .ok (.putfield 121, 3) := by decide +kernel
theorem dX9_fill_47 : decode cX9_fill 47 = .ok (.iconst 0, 1) := by decide +kernel
theorem dX9_fill_48 : decode cX9_fill 48 = .ok (.istore 6, 2) := by decide +kernel
theorem dX9_fill_50 : decode cX9_fill 50 = .ok (.iload 6, 2) := by decide +kernel
theorem dX9_fill_52 : decode cX9_fill 52 = .ok (.iload_n 3, 1) := by decide +kernel
theorem dX9_fill_53 : decode cX9_fill 53 = .ok (.if_icmp .ge 32, 3) := by decide +kernel
theorem dX9_fill_56 : decode cX9_fill 56 = .ok (.aload_n 0, 1) := by decide +kernel
theorem dX9_fill_57 : decode cX9_fill 57 = .ok (.aload_n 0, 1) := by decide +kernel
theorem dX9_fill_58 : decode cX9_fill 58 = .ok (.iload_n 1, 1) := by decide +kernel
theorem dX9_fill_59 : decode cX9_fill 59 = .ok (.iload_n 2, 1) := by decide +kernel
theorem dX9_fill_60 : decode cX9_fill 60 = .ok (.iload 6, 2) := by decide +kernel
theorem dX9_fill_62 : decode cX9_fill 62 = .ok (.iadd, 1) := by decide +kernel
theorem dX9_fill_63 : decode cX9_fill 63 = .ok (.invokevirtual 114, 3) := by decide +kernel
theorem dX9_fill_66 : decode cX9_fill 66 = .ok (.putfield 121, 3) := by decide +kernel
theorem dX9_fill_69 : decode cX9_fill 69 = .ok (.aload_n 0, 1) := by decide +kernel
theorem dX9_fill_70 : decode cX9_fill 70 = .ok (.getfield 121, 3) := by decide +kernel
theorem dX9_fill_73 : decode cX9_fill 73 = .ok (.ifCond .eq 6, 3) := by decide +kernel
theorem dX9_fill_76 : decode cX9_fill 76 = .ok (.iload 6, 2) := by decide +kernel
theorem dX9_fill_78 : decode cX9_fill 78 = .ok (.ireturn, 1) := by decide +kernel
theorem dX9_fill_79 : decode cX9_fill 79 = .ok (.iinc 6 1, 3) := by decide +kernel
theorem dX9_fill_82 : decode cX9_fill 82 = .ok (.goto (-32), 3) := by decide +kernel
theorem dX9_fill_85 : decode cX9_fill 85 = .ok (.iload_n 3, 1) := by decide +kernel
theorem dX9_fill_86 : decode cX9_fill 86 = .ok (.ireturn, 1) := by decide +kernel
theorem dX9_move_0 : decode cX9_move 0 = .ok (.iload_n 1, 1) := by decide +kernel
theorem dX9_move_1 : decode cX9_move 1 = .ok (.invokestatic 46, 3) := by decide +kernel
theorem dX9_move_4 : decode cX9_move 4 = .ok (.ifCond .eq 21, 3) := by decide +kernel
theorem dX9_move_7 : decode cX9_move 7 = .ok (.iload_n 3, 1) := by decide +kernel
theorem dX9_move_8 : decode cX9_move 8 = .ok (.invokestatic 46, 3) := by decide +kernel
theorem dX9_move_11 : decode cX9_move 11 = .ok (.ifCond .eq 14, 3) := by decide +kernel
theorem dX9_move_14 : decode cX9_move 14 = .ok (.iload 5, 2) := by decide +kernel
theorem dX9_move_16 : decode cX9_move 16 = .ok (.iconst 0, 1) := by decide +kernel
theorem dX9_move_17 : decode cX9_move 17 = .ok (.bipush 20, 2) := by decide +kernel
theorem dX9_move_19 : decode cX9_move 19 = .ok (.invokestatic 50, 3) := by decide +kernel
theorem dX9_move_22 : decode cX9_move 22 = .ok (.ifCond .ne 5, 3) := by decide +kernel
theorem dX9_move_25 : decode cX9_move 25 = .ok (.iconst (-1), 1) := by decide +kernel
theorem dX9_move_26 : decode cX9_move 26 = .ok (.ireturn, 1) := by decide +kernel
theorem dX9_move_27 : decode cX9_move 27 = .ok (.aload_n 0, 1) := by decide +kernel
theorem dX9_move_28 : decode cX9_move 28 = .ok (.iconst 0, 1) := by decide +kernel
theorem dX9_move_29 : decode cX9_move 29 = .ok (.putfield 121, 3) := by decide +kernel
theorem dX9_move_32 : decode cX9_move 32 = .ok (.iconst 0, 1) := by decide +kernel
theorem dX9_move_33 : decode cX9_move 33 = .ok (.istore 6, 2) := by decide +kernel
theorem dX9_move_35 : decode cX9_move 35 = .ok (.iload 6, 2) := by decide +kernel
theorem dX9_move_37 : decode cX9_move 37 = .ok (.iload 5, 2) := by decide +kernel
theorem dX9_move_39 : decode cX9_move 39 = .ok (.if_icmp .ge 67, 3) := by decide +kernel
theorem dX9_move_42 : decode cX9_move 42 = .ok (.aload_n 0, 1) := by decide +kernel
theorem dX9_move_43 : decode cX9_move 43 = .ok (.aload_n 0, 1) := by decide +kernel
theorem dX9_move_44 : decode cX9_move 44 = .ok (.iload_n 3, 1) := by decide +kernel
theorem dX9_move_45 : decode cX9_move 45 = .ok (.iload 4, 2) := by decide +kernel
theorem dX9_move_47 : decode cX9_move 47 = .ok (.iload 6, 2) := by decide +kernel
theorem dX9_move_49 : decode cX9_move 49 = .ok (.iadd, 1) := by decide +kernel
theorem dX9_move_50 : decode cX9_move 50 = .ok (.invokevirtual 91, 3) := by decide +kernel
theorem dX9_move_53 : decode cX9_move 53 = .ok (.putfield 121, 3) := by decide +kernel
theorem dX9_move_56 : decode cX9_move 56 = .ok (.aload_n 0, 1) := by decide +kernel
theorem dX9_move_57 : decode cX9_move 57 = .ok (.getfield 121, 3) := by decide +kernel
theorem dX9_move_60 : decode cX9_move 60 = .ok (.ifCond .ne 30, 3) := by decide +kernel
theorem dX9_move_63 : decode cX9_move 63 = .ok (.aload_n 0, 1) := by decide +kernel
theorem dX9_move_64 : decode cX9_move 64 = .ok (.aload_n 0, 1) := by decide +kernel
theorem dX9_move_65 : decode cX9_move 65 = .ok (.iload_n 1, 1) := by decide +kernel
theorem dX9_move_66 : decode cX9_move 66 = .ok (.iload_n 2, 1) := by decide +kernel
theorem dX9_move_67 : decode cX9_move 67 = .ok (.iload 6, 2) := by decide +kernel
theorem dX9_move_69 : decode cX9_move 69 = .ok (.iadd, 1) := by decide +kernel
theorem dX9_move_70 : decode cX9_move 70 = .ok (.aload_n 0, 1) := by decide +kernel
theorem dX9_move_71 : decode cX9_move 71 = .ok (.getfield 10, 3) := by decide +kernel
theorem dX9_move_74 : decode cX9_move 74 = .ok (.getfield 69, 3) := by decide +kernel
theorem dX9_move_77 : decode cX9_move 77 = .ok (.iload_n 3, 1) := by decide +kernel
theorem dX9_move_78 : decode cX9_move 78 = .ok (.aaload, 1) := by decide +kernel
theorem dX9_move_79 : decode cX9_move 79 = .ok (.iload 4, 2) := by decide +kernel
theorem dX9_move_81 : decode cX9_move 81 = .ok (.iload 6, 2) := by decide +kernel
theorem dX9_move_83 : decode cX9_move 83 = .ok (.iadd, 1) := by decide +kernel
theorem dX9_move_84 : decode cX9_move 84 = .ok (.invokevirtual 117, 3) := by decide +kernel
theorem dX9_move_87 : decode cX9_move 87 = .ok (.putfield 121, 3) := by decide +kernel
theorem dX9_move_90 : decode cX9_move 90 = .ok (.aload_n 0, 1) := by decide +kernel
theorem dX9_move_91 : decode cX9_move 91 = .ok (.getfield 121, 3) := by decide +kernel
theorem dX9_move_94 : decode cX9_move 94 = .ok (.ifCond .eq 6, 3) := by decide +kernel
theorem dX9_move_97 : decode cX9_move 97 = .ok (.iload 6, 2) := by decide +kernel
theorem dX9_move_99 : decode cX9_move 99 = .ok (.ireturn, 1) := by decide +kernel
theorem dX9_move_100 : decode cX9_move 100 = .ok (.iinc 6 1, 3) := by decide +kernel
theorem dX9_move_103 : decode cX9_move 103 = .ok (.goto (-68), 3) := by decide +kernel
theorem dX9_move_106 : decode cX9_move 106 = .ok (.iload 5, 2) := by decide +kernel
theorem dX9_move_108 : decode cX9_move 108 = .ok (.ireturn, 1) := by decide +kernel
theorem dX9_torn_0 : decode cX9_torn 0 = .ok (.aload_n 0, 1) := by decide +kernel
theorem dX9_torn_1 : decode cX9_torn 1 = .ok (.getfield 121, 3) := by decide +kernel
theorem dX9_torn_4 : decode cX9_torn 4 = .ok (.ireturn, 1) := by decide +kernel
theorem dX9_sum_0 : decode cX9_sum 0 = .ok (.iload_n 1, 1) := by decide +kernel
theorem dX9_sum_1 : decode cX9_sum 1 = .ok (.invokestatic 46, 3) := by decide +kernel
theorem dX9_sum_4 : decode cX9_sum 4 = .ok (.ifCond .eq 13, 3) := by decide +kernel
theorem dX9_sum_7 : decode cX9_sum 7 = .ok (.iload_n 2, 1) := by decide +kernel
theorem dX9_sum_8 : decode cX9_sum 8 = .ok (.iconst 1, 1) := by decide +kernel
theorem dX9_sum_9 : decode cX9_sum 9 = .ok (.bipush 7, 2) := by decide +kernel
theorem dX9_sum_11 : decode cX9_sum 11 = .ok (.invokestatic 50, 3) := by decide +kernel
theorem dX9_sum_14 : decode cX9_sum 14 = .ok (.ifCond .ne 5, 3) := by decide +kernel
theorem dX9_sum_17 : decode cX9_sum 17 = .ok (.iconst (-1), 1) := by decide +kernel
theorem dX9_sum_18 : decode cX9_sum 18 = .ok (.ireturn, 1) := by decide +kernel
theorem dX9_sum_19 : decode cX9_sum 19 = .ok (.aload_n 0, 1) := by decide +kernel
theorem dX9_sum_20 : decode cX9_sum 20 = .ok (.getfield 10, 3) := by decide +kernel
theorem dX9_sum_23 : decode cX9_sum 23 = .ok (.getfield 69, 3) := by decide +kernel
theorem dX9_sum_26 : decode cX9_sum 26 = .ok (.iload_n 1, 1) := by decide +kernel
theorem dX9_sum_27 : decode cX9_sum 27 = .ok (.aaload, 1) := by decide +kernel
theorem dX9_sum_28 : decode cX9_sum 28 = .ok (.astore_n 3, 1) := by decide +kernel
theorem dX9_sum_29 : decode cX9_sum 29 = .ok (.aload_n 3, 1) := by decide +kernel
theorem dX9_sum_30 : decode cX9_sum 30 = .ok (.ifnonnull 15, 3) := by decide +kernel
theorem dX9_sum_33 : decode cX9_sum 33 = .ok (.aload_n 0, 1) := by decide +kernel
theorem dX9_sum_34 : decode cX9_sum 34 = .ok (.getfield 10, 3) := by decide +kernel
theorem dX9_sum_37 : decode cX9_sum 37 = .ok (.iload_n 1, 1) := by decide +kernel
theorem dX9_sum_38 : decode cX9_sum 38 = .ok (.invokevirtual 85, 3) := by decide +kernel
theorem dX9_sum_41 : decode cX9_sum 41 = .ok (.invokestatic 62, 3) := by decide +kernel
theorem dX9_sum_44 : decode cX9_sum 44 = .ok (.ireturn, 1) := by decide +kernel
theorem dX9_sum_45 : decode cX9_sum 45 = .ok (.aload_n 3, 1) := by decide +kernel
theorem dX9_sum_46 : decode cX9_sum 46 = .ok (.getfield 88, 3) := by decide +kernel
theorem dX9_sum_49 : decode cX9_sum 49 = .ok (.ifCond .ne 7, 3) := by decide +kernel
theorem dX9_sum_52 : decode cX9_sum 52 = .ok (.iconst 0, 1) := by decide +kernel
theorem dX9_sum_53 : decode cX9_sum 53 = .ok (.goto 8, 3) := by decide +kernel
theorem dX9_sum_56 : decode cX9_sum 56 = .ok (.aload_n 3, 1) := by decide +kernel
theorem dX9_sum_57 : decode cX9_sum 57 = .ok (.iload_n 2, 1) := by decide +kernel
theorem dX9_sum_58 : decode cX9_sum 58 = .ok (.invokestatic 95, 3) := by decide +kernel
theorem dX9_sum_61 : decode cX9_sum 61 = .ok (.istore 4, 2) := by decide +kernel
theorem dX9_sum_63 : decode cX9_sum 63 = .ok (.iload 4, 2) := by decide +kernel
theorem dX9_sum_65 : decode cX9_sum 65 = .ok (.ifCond .eq 9, 3) := by decide +kernel
theorem dX9_sum_68 : decode cX9_sum 68 = .ok (.iload 4, 2) := by decide +kernel
theorem dX9_sum_70 : decode cX9_sum 70 = .ok (.invokestatic 62, 3) := by decide +kernel
theorem dX9_sum_73 : decode cX9_sum 73 = .ok (.ireturn, 1) := by decide +kernel
theorem dX9_sum_74 : decode cX9_sum 74 = .ok (.aload_n 0, 1) := by decide +kernel
theorem dX9_sum_75 : decode cX9_sum 75 = .ok (.aload_n 3, 1) := by decide +kernel
theorem dX9_sum_76 : decode cX9_sum 76 = .ok (.iload_n 2, 1) := by decide +kernel
theorem dX9_sum_77 : decode cX9_sum 77 = .ok (.invokevirtual 124, 3) := by decide +kernel
theorem dX9_sum_80 : decode cX9_sum 80 = .ok (.putfield 103, 3) := by decide +kernel
theorem dX9_sum_83 : decode cX9_sum 83 = .ok (.iconst 1, 1) := by decide +kernel
theorem dX9_sum_84 : decode cX9_sum 84 = .ok (.ireturn, 1) := by decide +kernel
theorem dX9_rate_0 : decode cX9_rate 0 = .ok (.iload_n 1, 1) := by decide +kernel
theorem dX9_rate_1 : decode cX9_rate 1 = .ok (.iconst 0, 1) := by decide +kernel
theorem dX9_rate_2 : decode cX9_rate 2 = .ok (.iconst 3, 1) := by decide +kernel
theorem dX9_rate_3 : decode cX9_rate 3 = .ok (.invokestatic 50, 3) := by decide +kernel
theorem dX9_rate_6 : decode cX9_rate 6 = .ok (.ifCond .ne 5, 3) := by decide +kernel
theorem dX9_rate_9 : decode cX9_rate 9 = .ok (.iconst (-1), 1) := by decide +kernel
theorem dX9_rate_10 : decode cX9_rate 10 = .ok (.ireturn, 1) := by decide +kernel
theorem dX9_rate_11 : decode cX9_rate 11 = .ok (.iload_n 1, 1) := by decide +kernel
theorem dX9_rate_12 : decode cX9_rate 12 = .ok (.iconst 1, 1) := by decide +kernel
theorem dX9_rate_13 : decode cX9_rate 13 = .ok (.if_icmp .eq 8, 3) := by decide +kernel
theorem dX9_rate_16 : decode cX9_rate 16 = .ok (.iload_n 1, 1) := by decide +kernel
theorem dX9_rate_17 : decode cX9_rate 17 = .ok (.iconst 2, 1) := by decide +kernel
theorem dX9_rate_18 : decode cX9_rate 18 = .ok (.if_icmp .ne 7, 3) := by decide +kernel
theorem dX9_rate_21 : decode cX9_rate 21 = .ok (.iconst 1, 1) := by decide +kernel
theorem dX9_rate_22 : decode cX9_rate 22 = .ok (.goto 4, 3) := by decide +kernel
theorem dX9_rate_25 : decode cX9_rate 25 = .ok (.iconst 0, 1) := by decide +kernel
theorem dX9_rate_26 : decode cX9_rate 26 = .ok (.istore_n 3, 1) := by decide +kernel
theorem dX9_rate_27 : decode cX9_rate 27 = .ok (.iload_n 1, 1) := by decide +kernel
theorem dX9_rate_28 : decode cX9_rate 28 = .ok (.ifCond .ne 8, 3) := by decide +kernel
theorem dX9_rate_31 : decode cX9_rate 31 = .ok (.bipush 99, 2) := by decide +kernel
theorem dX9_rate_33 : decode cX9_rate 33 = .ok (.goto 5, 3) := by decide +kernel
theorem dX9_rate_36 : decode cX9_rate 36 = .ok (.bipush 9, 2) := by decide +kernel
theorem dX9_rate_38 : decode cX9_rate 38 = .ok (.istore 4, 2) := by decide +kernel
theorem dX9_rate_40 : decode cX9_rate 40 = .ok (.iload_n 2, 1) := by decide +kernel
theorem dX9_rate_41 : decode cX9_rate 41 = .ok (.iload_n 3, 1) := by decide +kernel
theorem dX9_rate_42 : decode cX9_rate 42 = .ok (.iload 4, 2) := by decide +kernel
theorem dX9_rate_44 : decode cX9_rate 44 = .ok (.invokestatic 50, 3) := by decide +kernel
theorem dX9_rate_47 : decode cX9_rate 47 = .ok (.ifCond .ne 5, 3) := by decide +kernel
theorem dX9_rate_50 : decode cX9_rate 50 = .ok (.iconst (-1), 1) := by decide +kernel
theorem dX9_rate_51 : decode cX9_rate 51 = .ok (.ireturn, 1) := by decide +kernel
theorem dX9_rate_52 : decode cX9_rate 52 = .ok (.aload_n 0, 1) := by decide +kernel
theorem dX9_rate_53 : decode cX9_rate 53 = .ok (.getfield 26, 3) := by decide +kernel
theorem dX9_rate_56 : decode cX9_rate 56 = .ok (.iload_n 1, 1) := by decide +kernel
theorem dX9_rate_57 : decode cX9_rate 57 = .ok (.iaload, 1) := by decide +kernel
theorem dX9_rate_58 : decode cX9_rate 58 = .ok (.istore 5, 2) := by decide +kernel
theorem dX9_rate_60 : decode cX9_rate 60 = .ok (.aload_n 0, 1) := by decide +kernel
theorem dX9_rate_61 : decode cX9_rate 61 = .ok (.getfield 26, 3) := by decide +kernel
theorem dX9_rate_64 : decode cX9_rate 64 = .ok (.iload_n 1, 1) := by decide +kernel
theorem dX9_rate_65 : decode cX9_rate 65 = .ok (.iload_n 2, 1) := by decide +kernel
theorem dX9_rate_66 : decode cX9_rate 66 = .ok (.iastore, 1) := by decide +kernel
theorem dX9_rate_67 : decode cX9_rate 67 = .ok (.iload 5, 2) := by decide +kernel
theorem dX9_rate_69 : decode cX9_rate 69 = .ok (.ireturn, 1) := by decide +kernel
theorem dX9_like_0 : decode cX9_like 0 = .ok (.iload_n 1, 1) := by decide +kernel
theorem dX9_like_1 : decode cX9_like 1 = .ok (.invokestatic 46, 3) := by decide +kernel
theorem dX9_like_4 : decode cX9_like 4 = .ok (.ifCond .eq 10, 3) := by decide +kernel
theorem dX9_like_7 : decode cX9_like 7 = .ok (.iload_n 3, 1) := by decide +kernel
theorem dX9_like_8 : decode cX9_like 8 = .ok (.invokestatic 46, 3) := by decide +kernel
theorem dX9_like_11 : decode cX9_like 11 = .ok (.ifCond .ne 5, 3) := by decide +kernel
theorem dX9_like_14 : decode cX9_like 14 = .ok (.iconst (-1), 1) := by decide +kernel
theorem dX9_like_15 : decode cX9_like 15 = .ok (.ireturn, 1) := by decide +kernel
theorem dX9_like_16 : decode cX9_like 16 = .ok (.aload_n 0, 1) := by decide +kernel
theorem dX9_like_17 : decode cX9_like 17 = .ok (.iload_n 1, 1) := by decide +kernel
theorem dX9_like_18 : decode cX9_like 18 = .ok (.iload_n 2, 1) := by decide +kernel
theorem dX9_like_19 : decode cX9_like 19 = .ok (.invokevirtual 91, 3) := by decide +kernel
theorem dX9_like_22 : decode cX9_like 22 = .ok (.istore 5, 2) := by decide +kernel
theorem dX9_like_24 : decode cX9_like 24 = .ok (.iload 5, 2) := by decide +kernel
theorem dX9_like_26 : decode cX9_like 26 = .ok (.ifCond .ne 12, 3) := by decide +kernel
theorem dX9_like_29 : decode cX9_like 29 = .ok (.aload_n 0, 1) := by decide +kernel
theorem dX9_like_30 : decode cX9_like 30 = .ok (.iload_n 3, 1) := by decide +kernel
theorem dX9_like_31 : decode cX9_like 31 = .ok (.iload 4, 2) := by decide +kernel
theorem dX9_like_33 : decode cX9_like 33 = .ok (.invokevirtual 91, 3) := by decide +kernel
theorem dX9_like_36 : decode cX9_like 36 = .ok (.istore 5, 2) := by decide +kernel
theorem dX9_like_38 : decode cX9_like 38 = .ok (.iload 5, 2) := by decide +kernel
theorem dX9_like_40 : decode cX9_like 40 = .ok (.ifCond .eq 9, 3) := by decide +kernel
theorem dX9_like_43 : decode cX9_like 43 = .ok (.iload 5, 2) := by decide +kernel
theorem dX9_like_45 : decode cX9_like 45 = .ok (.invokestatic 62, 3) := by decide +kernel
theorem dX9_like_48 : decode cX9_like 48 = .ok (.ireturn, 1) := by decide +kernel
theorem dX9_like_49 : decode cX9_like 49 = .ok (.aload_n 0, 1) := by decide +kernel
theorem dX9_like_50 : decode cX9_like 50 = .ok (.getfield 10, 3) := by decide +kernel
theorem dX9_like_53 : decode cX9_like 53 = .ok (.getfield 69, 3) := by decide +kernel
theorem dX9_like_56 : decode cX9_like 56 = .ok (.iload_n 1, 1) := by decide +kernel
theorem dX9_like_57 : decode cX9_like 57 = .ok (.aaload, 1) := by decide +kernel
theorem dX9_like_58 : decode cX9_like 58 = .ok (.iload_n 2, 1) := by decide +kernel
theorem dX9_like_59 : decode cX9_like 59 = .ok (.aload_n 0, 1) := by decide +kernel
theorem dX9_like_60 : decode cX9_like 60 = .ok (.getfield 10, 3) := by decide +kernel
theorem dX9_like_63 : decode cX9_like 63 = .ok (.getfield 69, 3) := by decide +kernel
theorem dX9_like_66 : decode cX9_like 66 = .ok (.iload_n 3, 1) := by decide +kernel
theorem dX9_like_67 : decode cX9_like 67 = .ok (.aaload, 1) := by decide +kernel
theorem dX9_like_68 : decode cX9_like 68 = .ok (.iload 4, 2) := by decide +kernel
theorem dX9_like_70 : decode cX9_like 70 = .ok (.aload_n 0, 1) := by decide +kernel
theorem dX9_like_71 : decode cX9_like 71 = .ok (.getfield 26, 3) := by decide +kernel
theorem dX9_like_74 : decode cX9_like 74 = .ok (.iconst 0, 1) := by decide +kernel
theorem dX9_like_75 : decode cX9_like 75 = .ok (.iaload, 1) := by decide +kernel
theorem dX9_like_76 : decode cX9_like 76 = .ok (.invokestatic 128, 3) := by decide +kernel
theorem dX9_like_79 : decode cX9_like 79 = .ok (.ireturn, 1) := by decide +kernel
theorem dX9_compare_0 : decode cX9_compare 0 = .ok (.iload_n 1, 1) := by decide +kernel
theorem dX9_compare_1 : decode cX9_compare 1 = .ok (.invokestatic 46, 3) := by decide +kernel
theorem dX9_compare_4 : decode cX9_compare 4 = .ok (.ifCond .eq 10, 3) := by decide +kernel
theorem dX9_compare_7 : decode cX9_compare 7 = .ok (.iload_n 2, 1) := by decide +kernel
theorem dX9_compare_8 : decode cX9_compare 8 = .ok (.invokestatic 46, 3) := by decide +kernel
theorem dX9_compare_11 : decode cX9_compare 11 = .ok (.ifCond .ne 5, 3) := by decide +kernel
theorem dX9_compare_14 : decode cX9_compare 14 = .ok (.iconst (-1), 1) := by decide +kernel
theorem dX9_compare_15 : decode cX9_compare 15 = .ok (.ireturn, 1) := by decide +kernel
theorem dX9_compare_16 : decode cX9_compare 16 = .ok (.aload_n 0, 1) := by decide +kernel
theorem dX9_compare_17 : decode cX9_compare 17 = .ok (.getfield 10, 3) := by decide +kernel
theorem dX9_compare_20 : decode cX9_compare 20 = .ok (.getfield 69, 3) := by decide +kernel
theorem dX9_compare_23 : decode cX9_compare 23 = .ok (.iload_n 1, 1) := by decide +kernel
theorem dX9_compare_24 : decode cX9_compare 24 = .ok (.aaload, 1) := by decide +kernel
theorem dX9_compare_25 : decode cX9_compare 25 = .ok (.astore_n 3, 1) := by decide +kernel
theorem dX9_compare_26 : decode cX9_compare 26 = .ok (.aload_n 3, 1) := by decide +kernel
theorem dX9_compare_27 : decode cX9_compare 27 = .ok (.ifnonnull 15, 3) := by decide +kernel
theorem dX9_compare_30 : decode cX9_compare 30 = .ok (.aload_n 0, 1) := by decide +kernel
theorem dX9_compare_31 : decode cX9_compare 31 = .ok (.getfield 10, 3) := by decide +kernel
theorem dX9_compare_34 : decode cX9_compare 34 = .ok (.iload_n 1, 1) := by decide +kernel
theorem dX9_compare_35 : decode cX9_compare 35 = .ok (.invokevirtual 85, 3) := by decide +kernel
theorem dX9_compare_38 : decode cX9_compare 38 = .ok (.invokestatic 62, 3) := by decide +kernel
theorem dX9_compare_41 : decode cX9_compare 41 = .ok (.ireturn, 1) := by decide +kernel
theorem dX9_compare_42 : decode cX9_compare 42 = .ok (.aload_n 0, 1) := by decide +kernel
theorem dX9_compare_43 : decode cX9_compare 43 = .ok (.getfield 10, 3) := by decide +kernel
theorem dX9_compare_46 : decode cX9_compare 46 = .ok (.getfield 69, 3) := by decide +kernel
theorem dX9_compare_49 : decode cX9_compare 49 = .ok (.iload_n 2, 1) := by decide +kernel
theorem dX9_compare_50 : decode cX9_compare 50 = .ok (.aaload, 1) := by decide +kernel
theorem dX9_compare_51 : decode cX9_compare 51 = .ok (.astore 4, 2) := by decide +kernel
theorem dX9_compare_53 : decode cX9_compare 53 = .ok (.aload 4, 2) := by decide +kernel
theorem dX9_compare_55 : decode cX9_compare 55 = .ok (.ifnonnull 15, 3) := by decide +kernel
theorem dX9_compare_58 : decode cX9_compare 58 = .ok (.aload_n 0, 1) := by decide +kernel
theorem dX9_compare_59 : decode cX9_compare 59 = .ok (.getfield 10, 3) := by decide +kernel
theorem dX9_compare_62 : decode cX9_compare 62 = .ok (.iload_n 2, 1) := by decide +kernel
theorem dX9_compare_63 : decode cX9_compare 63 = .ok (.invokevirtual 85, 3) := by decide +kernel
theorem dX9_compare_66 : decode cX9_compare 66 = .ok (.invokestatic 62, 3) := by decide +kernel
theorem dX9_compare_69 : decode cX9_compare 69 = .ok (.ireturn, 1) := by decide +kernel
theorem dX9_compare_70 : decode cX9_compare 70 = .ok (.aload_n 0, 1) := by decide +kernel
theorem dX9_compare_71 : decode cX9_compare 71 = .ok (.getfield 33, 3) := by decide +kernel
theorem dX9_compare_74 : decode cX9_compare 74 = .ok (.aload_n 3, 1) := by decide +kernel
theorem dX9_compare_75 : decode cX9_compare 75 = .ok (.aload 4, 2) := by decide +kernel
theorem dX9_compare_77 : decode cX9_compare 77 = .ok (.aload_n 0, 1) := by decide +kernel
theorem dX9_compare_78 : decode cX9_compare 78 = .ok (.getfield 26, 3) := by decide +kernel
theorem dX9_compare_81 : decode cX9_compare 81 = .ok (.invokevirtual 134, 3) := by decide +kernel
theorem dX9_compare_84 : decode cX9_compare 84 = .ok (.istore 5, 2) := by decide +kernel
theorem dX9_compare_86 : decode cX9_compare 86 = .ok (.aload_n 0, 1) := by decide +kernel
theorem dX9_compare_87 : decode cX9_compare 87 = .ok (.new 138, 3) := by decide +kernel
theorem dX9_compare_90 : decode cX9_compare 90 = .ok (.dup, 1) := by decide +kernel
theorem dX9_compare_91 : decode cX9_compare 91 = .ok (.aload_n 3, 1) := by decide +kernel
theorem dX9_compare_92 : decode cX9_compare 92 = .ok (.invokevirtual 140, 3) := by decide +kernel
theorem dX9_compare_95 : decode cX9_compare 95 = .ok (.aload 4, 2) := by decide +kernel
theorem dX9_compare_97 : decode cX9_compare 97 = .ok (.invokevirtual 140, 3) := by decide +kernel
theorem dX9_compare_100 : decode cX9_compare 100 = .ok (.iload 5, 2) := by decide +kernel
theorem dX9_compare_102 : decode cX9_compare 102 = .ok (.invokespecial 144, 3) := by decide +kernel
theorem dX9_compare_105 : decode cX9_compare 105 = .ok (.putfield 147, 3) := by decide +kernel
theorem dX9_compare_108 : decode cX9_compare 108 = .ok (.aload_n 0, 1) := by decide +kernel
theorem dX9_compare_109 : decode cX9_compare 109 = .ok (.getfield 33, 3) := by decide +kernel
theorem dX9_compare_112 : decode cX9_compare 112 = .ok (.aload_n 0, 1) := by decide +kernel
theorem dX9_compare_113 : decode cX9_compare 113 = .ok (.getfield 147, 3) := by decide +kernel
theorem dX9_compare_116 : decode cX9_compare 116 = .ok (.aload_n 0, 1) := by decide +kernel
theorem dX9_compare_117 : decode cX9_compare 117 = .ok (.getfield 26, 3) := by decide +kernel
theorem dX9_compare_120 : decode cX9_compare 120 = .ok (.invokevirtual 151, 3) := by decide +kernel
theorem dX9_compare_123 : decode cX9_compare 123 = .ok (.iload 5, 2) := by decide +kernel
theorem dX9_compare_125 : decode cX9_compare 125 = .ok (.ireturn, 1) := by decide +kernel
theorem dX9_result_0 : decode cX9_result 0 = .ok (.iload_n 1, 1) := by decide +kernel
theorem dX9_result_1 : decode cX9_result 1 = .ok (.iconst 0, 1) := by decide +kernel
theorem dX9_result_2 : decode cX9_result 2 = .ok (.bipush 9, 2) := by decide +kernel
theorem dX9_result_4 : decode cX9_result 4 = .ok (.invokestatic 50, 3) := by decide +kernel
theorem dX9_result_7 : decode cX9_result 7 = .ok (.ifCond .ne 5, 3) := by decide +kernel
theorem dX9_result_10 : decode cX9_result 10 = .ok (.iconst (-1), 1) := by decide +kernel
theorem dX9_result_11 : decode cX9_result 11 = .ok (.ireturn, 1) := by decide +kernel
theorem dX9_result_12 : decode cX9_result 12 = .ok (.aload_n 0, 1) := by decide +kernel
theorem dX9_result_13 : decode cX9_result 13 = .ok (.getfield 147, 3) := by decide +kernel
theorem dX9_result_16 : decode cX9_result 16 = .ok (.ifnonnull 6, 3) := by decide +kernel
theorem dX9_result_19 : decode cX9_result 19 = .ok (.bipush (-2), 2) := by decide +kernel
theorem dX9_result_21 : decode cX9_result 21 = .ok (.ireturn, 1) := by decide +kernel
theorem dX9_result_22 : decode cX9_result 22 = .ok (.iload_n 1, 1) := by decide +kernel
theorem dX9_result_23 : decode cX9_result 23 = .ok (.tableswitch 127 0 8 #[49, 57, 65, 74, 83, 92, 101, 110, 119], 49) := by decide +kernel
theorem dX9_result_72 : decode cX9_result 72 = .ok (.aload_n 0, 1) := by decide +kernel
theorem dX9_result_73 : decode cX9_result 73 = .ok (.getfield 147, 3) := by decide +kernel
theorem dX9_result_76 : decode cX9_result 76 = .ok (.getfield 155, 3) := by decide +kernel
theorem dX9_result_79 : decode cX9_result 79 = .ok (.ireturn, 1) := by decide +kernel
theorem dX9_result_80 : decode cX9_result 80 = .ok (.aload_n 0, 1) := by decide +kernel
theorem dX9_result_81 : decode cX9_result 81 = .ok (.getfield 147, 3) := by decide +kernel
theorem dX9_result_84 : decode cX9_result 84 = .ok (.getfield 158, 3) := by decide +kernel
theorem dX9_result_87 : decode cX9_result 87 = .ok (.ireturn, 1) := by decide +kernel
theorem dX9_result_88 : decode cX9_result 88 = .ok (.aload_n 0, 1) := by decide +kernel
theorem dX9_result_89 : decode cX9_result 89 = .ok (.getfield 147, 3) := by decide +kernel
theorem dX9_result_92 : decode cX9_result 92 = .ok (.iconst 0, 1) := by decide +kernel
theorem dX9_result_93 : decode cX9_result 93 = .ok (.invokevirtual 161, 3) := by decide +kernel
theorem dX9_result_96 : decode cX9_result 96 = .ok (.ireturn, 1) := by decide +kernel
theorem dX9_result_97 : decode cX9_result 97 = .ok (.aload_n 0, 1) := by decide +kernel
theorem dX9_result_98 : decode cX9_result 98 = .ok (.getfield 147, 3) := by decide +kernel
theorem dX9_result_101 : decode cX9_result 101 = .ok (.iconst 1, 1) := by decide +kernel
theorem dX9_result_102 : decode cX9_result 102 = .ok (.invokevirtual 161, 3) := by decide +kernel
theorem dX9_result_105 : decode cX9_result 105 = .ok (.ireturn, 1) := by decide +kernel
theorem dX9_result_106 : decode cX9_result 106 = .ok (.aload_n 0, 1) := by decide +kernel
theorem dX9_result_107 : decode cX9_result 107 = .ok (.getfield 147, 3) := by decide +kernel
theorem dX9_result_110 : decode cX9_result 110 = .ok (.iconst 2, 1) := by decide +kernel
theorem dX9_result_111 : decode cX9_result 111 = .ok (.invokevirtual 161, 3) := by decide +kernel
theorem dX9_result_114 : decode cX9_result 114 = .ok (.ireturn, 1) := by decide +kernel
theorem dX9_result_115 : decode cX9_result 115 = .ok (.aload_n 0, 1) := by decide +kernel
theorem dX9_result_116 : decode cX9_result 116 = .ok (.getfield 147, 3) := by decide +kernel
theorem dX9_result_119 : decode cX9_result 119 = .ok (.iconst 1, 1) := by decide +kernel
theorem dX9_result_120 : decode cX9_result 120 = .ok (.invokevirtual 164, 3) := by decide +kernel
theorem dX9_result_123 : decode cX9_result 123 = .ok (.ireturn, 1) := by decide +kernel
theorem dX9_result_124 : decode cX9_result 124 = .ok (.aload_n 0, 1) := by decide +kernel
theorem dX9_result_125 : decode cX9_result 125 = .ok (.getfield 147, 3) := by decide +kernel
theorem dX9_result_128 : decode cX9_result 128 = .ok (.iconst 2, 1) := by decide +kernel
theorem dX9_result_129 : decode cX9_result 129 = .ok (.invokevirtual 164, 3) := by decide +kernel
theorem dX9_result_132 : decode cX9_result 132 = .ok (.ireturn, 1) := by decide +kernel
theorem dX9_result_133 : decode cX9_result 133 = .ok (.aload_n 0, 1) := by decide +kernel
theorem dX9_result_134 : decode cX9_result 134 = .ok (.getfield 147, 3) := by decide +kernel
theorem dX9_result_137 : decode cX9_result 137 = .ok (.iconst 4, 1) := by decide +kernel
theorem dX9_result_138 : decode cX9_result 138 = .ok (.invokevirtual 161, 3) := by decide +kernel
theorem dX9_result_141 : decode cX9_result 141 = .ok (.ireturn, 1) := by decide +kernel
theorem dX9_result_142 : decode cX9_result 142 = .ok (.aload_n 0, 1) := by decide +kernel
theorem dX9_result_143 : decode cX9_result 143 = .ok (.getfield 147, 3) := by decide +kernel
theorem dX9_result_146 : decode cX9_result 146 = .ok (.invokevirtual 167, 3) := by decide +kernel
theorem dX9_result_149 : decode cX9_result 149 = .ok (.ireturn, 1) := by decide +kernel
theorem dX9_result_150 : decode cX9_result 150 = .ok (.aload_n 0, 1) := by decide +kernel
theorem dX9_result_151 : decode cX9_result 151 = .ok (.getfield 147, 3) := by decide +kernel
theorem dX9_result_154 : decode cX9_result 154 = .ok (.invokevirtual 171, 3) := by decide +kernel
theorem dX9_result_157 : decode cX9_result 157 = .ok (.ireturn, 1) := by decide +kernel
theorem dX9_step_0 : decode cX9_step 0 = .ok (.iload_n 1, 1) := by decide +kernel
theorem dX9_step_1 : decode cX9_step 1 = .ok (.ifCond .lt 12, 3) := by decide +kernel
theorem dX9_step_4 : decode cX9_step 4 = .ok (.iload_n 2, 1) := by decide +kernel
theorem dX9_step_5 : decode cX9_step 5 = .ok (.iconst 0, 1) := by decide +kernel
theorem dX9_step_6 : decode cX9_step 6 = .ok (.iconst 3, 1) := by decide +kernel
theorem dX9_step_7 : decode cX9_step 7 = .ok (.invokestatic 50, 3) := by decide +kernel
theorem dX9_step_10 : decode cX9_step 10 = .ok (.ifCond .ne 5, 3) := by decide +kernel
theorem dX9_step_13 : decode cX9_step 13 = .ok (.iconst (-1), 1) := by decide +kernel
theorem dX9_step_14 : decode cX9_step 14 = .ok (.ireturn, 1) := by decide +kernel
theorem dX9_step_15 : decode cX9_step 15 = .ok (.aload_n 0, 1) := by decide +kernel
theorem dX9_step_16 : decode cX9_step 16 = .ok (.getfield 147, 3) := by decide +kernel
theorem dX9_step_19 : decode cX9_step 19 = .ok (.ifnonnull 6, 3) := by decide +kernel
theorem dX9_step_22 : decode cX9_step 22 = .ok (.bipush (-2), 2) := by decide +kernel
theorem dX9_step_24 : decode cX9_step 24 = .ok (.ireturn, 1) := by decide +kernel
theorem dX9_step_25 : decode cX9_step 25 = .ok (.iload_n 1, 1) := by decide +kernel
theorem dX9_step_26 : decode cX9_step 26 = .ok (.aload_n 0, 1) := by decide +kernel
theorem dX9_step_27 : decode cX9_step 27 = .ok (.getfield 147, 3) := by decide +kernel
theorem dX9_step_30 : decode cX9_step 30 = .ok (.getfield 158, 3) := by decide +kernel
theorem dX9_step_33 : decode cX9_step 33 = .ok (.if_icmp .lt 6, 3) := by decide +kernel
theorem dX9_step_36 : decode cX9_step 36 = .ok (.bipush (-4), 2) := by decide +kernel
theorem dX9_step_38 : decode cX9_step 38 = .ok (.ireturn, 1) := by decide +kernel
theorem dX9_step_39 : decode cX9_step 39 = .ok (.iload_n 2, 1) := by decide +kernel
theorem dX9_step_40 : decode cX9_step 40 = .ok (.tableswitch 90 0 2 #[28, 38, 64], 28) := by decide +kernel
theorem dX9_step_68 : decode cX9_step 68 = .ok (.aload_n 0, 1) := by decide +kernel
theorem dX9_step_69 : decode cX9_step 69 = .ok (.getfield 147, 3) := by decide +kernel
theorem dX9_step_72 : decode cX9_step 72 = .ok (.getfield 174, 3) := by decide +kernel
theorem dX9_step_75 : decode cX9_step 75 = .ok (.iload_n 1, 1) := by decide +kernel
theorem dX9_step_76 : decode cX9_step 76 = .ok (.iaload, 1) := by decide +kernel
theorem dX9_step_77 : decode cX9_step 77 = .ok (.ireturn, 1) := by decide +kernel
theorem dX9_step_78 : decode cX9_step 78 = .ok (.aload_n 0, 1) := by decide +kernel
theorem dX9_step_79 : decode cX9_step 79 = .ok (.getfield 147, 3) := by decide +kernel
theorem dX9_step_82 : decode cX9_step 82 = .ok (.iload_n 1, 1) := by decide +kernel
theorem dX9_step_83 : decode cX9_step 83 = .ok (.invokevirtual 177, 3) := by decide +kernel
theorem dX9_step_86 : decode cX9_step 86 = .ok (.ifCond .eq 15, 3) := by decide +kernel
theorem dX9_step_89 : decode cX9_step 89 = .ok (.aload_n 0, 1) := by decide +kernel
theorem dX9_step_90 : decode cX9_step 90 = .ok (.getfield 147, 3) := by decide +kernel
theorem dX9_step_93 : decode cX9_step 93 = .ok (.getfield 180, 3) := by decide +kernel
theorem dX9_step_96 : decode cX9_step 96 = .ok (.iload_n 1, 1) := by decide +kernel
theorem dX9_step_97 : decode cX9_step 97 = .ok (.iaload, 1) := by decide +kernel
theorem dX9_step_98 : decode cX9_step 98 = .ok (.goto 5, 3) := by decide +kernel
theorem dX9_step_101 : decode cX9_step 101 = .ok (.bipush (-4), 2) := by decide +kernel
theorem dX9_step_103 : decode cX9_step 103 = .ok (.ireturn, 1) := by decide +kernel
theorem dX9_step_104 : decode cX9_step 104 = .ok (.aload_n 0, 1) := by decide +kernel
theorem dX9_step_105 : decode cX9_step 105 = .ok (.getfield 147, 3) := by decide +kernel
theorem dX9_step_108 : decode cX9_step 108 = .ok (.iload_n 1, 1) := by decide +kernel
theorem dX9_step_109 : decode cX9_step 109 = .ok (.invokevirtual 183, 3) := by decide +kernel
theorem dX9_step_112 : decode cX9_step 112 = .ok (.ifCond .eq 15, 3) := by decide +kernel
theorem dX9_step_115 : decode cX9_step 115 = .ok (.aload_n 0, 1) := by decide +kernel
theorem dX9_step_116 : decode cX9_step 116 = .ok (.getfield 147, 3) := by decide +kernel
theorem dX9_step_119 : decode cX9_step 119 = .ok (.getfield 186, 3) := by decide +kernel
theorem dX9_step_122 : decode cX9_step 122 = .ok (.iload_n 1, 1) := by decide +kernel
theorem dX9_step_123 : decode cX9_step 123 = .ok (.iaload, 1) := by decide +kernel
theorem dX9_step_124 : decode cX9_step 124 = .ok (.goto 5, 3) := by decide +kernel
theorem dX9_step_127 : decode cX9_step 127 = .ok (.bipush (-4), 2) := by decide +kernel
theorem dX9_step_129 : decode cX9_step 129 = .ok (.ireturn, 1) := by decide +kernel
theorem dX9_step_130 : decode cX9_step 130 = .ok (.aload_n 0, 1) := by decide +kernel
theorem dX9_step_131 : decode cX9_step 131 = .ok (.getfield 147, 3) := by decide +kernel
theorem dX9_step_134 : decode cX9_step 134 = .ok (.getfield 189, 3) := by decide +kernel
theorem dX9_step_137 : decode cX9_step 137 = .ok (.iload_n 1, 1) := by decide +kernel
theorem dX9_step_138 : decode cX9_step 138 = .ok (.iaload, 1) := by decide +kernel
theorem dX9_step_139 : decode cX9_step 139 = .ok (.ireturn, 1) := by decide +kernel
theorem dX9_join_0 : decode cX9_join 0 = .ok (.iload_n 1, 1) := by decide +kernel
theorem dX9_join_1 : decode cX9_join 1 = .ok (.invokestatic 46, 3) := by decide +kernel
theorem dX9_join_4 : decode cX9_join 4 = .ok (.ifCond .eq 12, 3) := by decide +kernel
theorem dX9_join_7 : decode cX9_join 7 = .ok (.iload_n 2, 1) := by decide +kernel
theorem dX9_join_8 : decode cX9_join 8 = .ok (.iconst 0, 1) := by decide +kernel
theorem dX9_join_9 : decode cX9_join 9 = .ok (.iconst 2, 1) := by decide +kernel
theorem dX9_join_10 : decode cX9_join 10 = .ok (.invokestatic 50, 3) := by decide +kernel
theorem dX9_join_13 : decode cX9_join 13 = .ok (.ifCond .ne 5, 3) := by decide +kernel
theorem dX9_join_16 : decode cX9_join 16 = .ok (.iconst (-1), 1) := by decide +kernel
theorem dX9_join_17 : decode cX9_join 17 = .ok (.ireturn, 1) := by decide +kernel
theorem dX9_join_18 : decode cX9_join 18 = .ok (.aload_n 0, 1) := by decide +kernel
theorem dX9_join_19 : decode cX9_join 19 = .ok (.getfield 147, 3) := by decide +kernel
theorem dX9_join_22 : decode cX9_join 22 = .ok (.ifnonnull 6, 3) := by decide +kernel
theorem dX9_join_25 : decode cX9_join 25 = .ok (.bipush (-2), 2) := by decide +kernel
theorem dX9_join_27 : decode cX9_join 27 = .ok (.ireturn, 1) := by decide +kernel
theorem dX9_join_28 : decode cX9_join 28 = .ok (.aload_n 0, 1) := by decide +kernel
theorem dX9_join_29 : decode cX9_join 29 = .ok (.getfield 147, 3) := by decide +kernel
theorem dX9_join_32 : decode cX9_join 32 = .ok (.invokevirtual 171, 3) := by decide +kernel
theorem dX9_join_35 : decode cX9_join 35 = .ok (.bipush 20, 2) := by decide +kernel
theorem dX9_join_37 : decode cX9_join 37 = .ok (.if_icmp .le 6, 3) := by decide +kernel
theorem dX9_join_40 : decode cX9_join 40 = .ok (.bipush (-3), 2) := by decide +kernel
theorem dX9_join_42 : decode cX9_join 42 = .ok (.ireturn, 1) := by decide +kernel
theorem dX9_join_43 : decode cX9_join 43 = .ok (.aload_n 0, 1) := by decide +kernel
theorem dX9_join_44 : decode cX9_join 44 = .ok (.getfield 147, 3) := by decide +kernel
theorem dX9_join_47 : decode cX9_join 47 = .ok (.iload_n 2, 1) := by decide +kernel
theorem dX9_join_48 : decode cX9_join 48 = .ok (.invokevirtual 192, 3) := by decide +kernel
theorem dX9_join_51 : decode cX9_join 51 = .ok (.astore_n 3, 1) := by decide +kernel
theorem dX9_join_52 : decode cX9_join 52 = .ok (.aload_n 0, 1) := by decide +kernel
theorem dX9_join_53 : decode cX9_join 53 = .ok (.getfield 10, 3) := by decide +kernel
theorem dX9_join_56 : decode cX9_join 56 = .ok (.iload_n 1, 1) := by decide +kernel
theorem dX9_join_57 : decode cX9_join 57 = .ok (.aload_n 3, 1) := by decide +kernel
theorem dX9_join_58 : decode cX9_join 58 = .ok (.invokevirtual 54, 3) := by decide +kernel
theorem dX9_join_61 : decode cX9_join 61 = .ok (.aload_n 3, 1) := by decide +kernel
theorem dX9_join_62 : decode cX9_join 62 = .ok (.getfield 88, 3) := by decide +kernel
theorem dX9_join_65 : decode cX9_join 65 = .ok (.ireturn, 1) := by decide +kernel
theorem dX9_near_0 : decode cX9_near 0 = .ok (.iload_n 1, 1) := by decide +kernel
theorem dX9_near_1 : decode cX9_near 1 = .ok (.invokestatic 46, 3) := by decide +kernel
theorem dX9_near_4 : decode cX9_near 4 = .ok (.ifCond .ne 5, 3) := by decide +kernel
theorem dX9_near_7 : decode cX9_near 7 = .ok (.iconst (-1), 1) := by decide +kernel
theorem dX9_near_8 : decode cX9_near 8 = .ok (.ireturn, 1) := by decide +kernel
theorem dX9_near_9 : decode cX9_near 9 = .ok (.aload_n 0, 1) := by decide +kernel
theorem dX9_near_10 : decode cX9_near 10 = .ok (.getfield 10, 3) := by decide +kernel
theorem dX9_near_13 : decode cX9_near 13 = .ok (.getfield 69, 3) := by decide +kernel
theorem dX9_near_16 : decode cX9_near 16 = .ok (.iload_n 1, 1) := by decide +kernel
theorem dX9_near_17 : decode cX9_near 17 = .ok (.aaload, 1) := by decide +kernel
theorem dX9_near_18 : decode cX9_near 18 = .ok (.astore_n 2, 1) := by decide +kernel
theorem dX9_near_19 : decode cX9_near 19 = .ok (.aload_n 2, 1) := by decide +kernel
theorem dX9_near_20 : decode cX9_near 20 = .ok (.ifnonnull 15, 3) := by decide +kernel
theorem dX9_near_23 : decode cX9_near 23 = .ok (.aload_n 0, 1) := by decide +kernel
theorem dX9_near_24 : decode cX9_near 24 = .ok (.getfield 10, 3) := by decide +kernel
theorem dX9_near_27 : decode cX9_near 27 = .ok (.iload_n 1, 1) := by decide +kernel
theorem dX9_near_28 : decode cX9_near 28 = .ok (.invokevirtual 85, 3) := by decide +kernel
theorem dX9_near_31 : decode cX9_near 31 = .ok (.invokestatic 62, 3) := by decide +kernel
theorem dX9_near_34 : decode cX9_near 34 = .ok (.ireturn, 1) := by decide +kernel
theorem dX9_near_35 : decode cX9_near 35 = .ok (.bipush (-4), 2) := by decide +kernel
theorem dX9_near_37 : decode cX9_near 37 = .ok (.istore_n 3, 1) := by decide +kernel
theorem dX9_near_38 : decode cX9_near 38 = .ok (.iconst 0, 1) := by decide +kernel
theorem dX9_near_39 : decode cX9_near 39 = .ok (.istore 4, 2) := by decide +kernel
theorem dX9_near_41 : decode cX9_near 41 = .ok (.iconst 0, 1) := by decide +kernel
theorem dX9_near_42 : decode cX9_near 42 = .ok (.istore 5, 2) := by decide +kernel
theorem dX9_near_44 : decode cX9_near 44 = .ok (.iload 5, 2) := by decide +kernel
theorem dX9_near_46 : decode cX9_near 46 = .ok (.bipush 8, 2) := by decide +kernel
theorem dX9_near_48 : decode cX9_near 48 = .ok (.if_icmp .ge 71, 3) := by decide +kernel
theorem dX9_near_51 : decode cX9_near 51 = .ok (.aload_n 0, 1) := by decide +kernel
theorem dX9_near_52 : decode cX9_near 52 = .ok (.getfield 10, 3) := by decide +kernel
theorem dX9_near_55 : decode cX9_near 55 = .ok (.getfield 69, 3) := by decide +kernel
theorem dX9_near_58 : decode cX9_near 58 = .ok (.iload 5, 2) := by decide +kernel
theorem dX9_near_60 : decode cX9_near 60 = .ok (.aaload, 1) := by decide +kernel
theorem dX9_near_61 : decode cX9_near 61 = .ok (.astore 6, 2) := by decide +kernel
theorem dX9_near_63 : decode cX9_near 63 = .ok (.iload 5, 2) := by decide +kernel
theorem dX9_near_65 : decode cX9_near 65 = .ok (.iload_n 1, 1) := by decide +kernel
theorem dX9_near_66 : decode cX9_near 66 = .ok (.if_icmp .eq 47, 3) := by decide +kernel
theorem dX9_near_69 : decode cX9_near 69 = .ok (.aload 6, 2) := by decide +kernel
theorem dX9_near_71 : decode cX9_near 71 = .ok (.ifnonnull 6, 3) := by decide +kernel
theorem dX9_near_74 : decode cX9_near 74 = .ok (.goto 39, 3) := by decide +kernel
theorem dX9_near_77 : decode cX9_near 77 = .ok (.aload_n 0, 1) := by decide +kernel
theorem dX9_near_78 : decode cX9_near 78 = .ok (.getfield 33, 3) := by decide +kernel
theorem dX9_near_81 : decode cX9_near 81 = .ok (.aload_n 2, 1) := by decide +kernel
theorem dX9_near_82 : decode cX9_near 82 = .ok (.aload 6, 2) := by decide +kernel
theorem dX9_near_84 : decode cX9_near 84 = .ok (.aload_n 0, 1) := by decide +kernel
theorem dX9_near_85 : decode cX9_near 85 = .ok (.getfield 26, 3) := by decide +kernel
theorem dX9_near_88 : decode cX9_near 88 = .ok (.invokevirtual 134, 3) := by decide +kernel
theorem dX9_near_91 : decode cX9_near 91 = .ok (.istore 7, 2) := by decide +kernel
theorem dX9_near_93 : decode cX9_near 93 = .ok (.iload_n 3, 1) := by decide +kernel
theorem dX9_near_94 : decode cX9_near 94 = .ok (.bipush (-4), 2) := by decide +kernel
theorem dX9_near_96 : decode cX9_near 96 = .ok (.if_icmp .eq 10, 3) := by decide +kernel
theorem dX9_near_99 : decode cX9_near 99 = .ok (.iload 7, 2) := by decide +kernel
theorem dX9_near_101 : decode cX9_near 101 = .ok (.iload 4, 2) := by decide +kernel
theorem dX9_near_103 : decode cX9_near 103 = .ok (.if_icmp .ge 10, 3) := by decide +kernel
theorem dX9_near_106 : decode cX9_near 106 = .ok (.iload 5, 2) := by decide +kernel
theorem dX9_near_108 : decode cX9_near 108 = .ok (.istore_n 3, 1) := by decide +kernel
theorem dX9_near_109 : decode cX9_near 109 = .ok (.iload 7, 2) := by decide +kernel
theorem dX9_near_111 : decode cX9_near 111 = .ok (.istore 4, 2) := by decide +kernel
theorem dX9_near_113 : decode cX9_near 113 = .ok (.iinc 5 1, 3) := by decide +kernel
theorem dX9_near_116 : decode cX9_near 116 = .ok (.goto (-72), 3) := by decide +kernel
theorem dX9_near_119 : decode cX9_near 119 = .ok (.iload_n 3, 1) := by decide +kernel
theorem dX9_near_120 : decode cX9_near 120 = .ok (.ireturn, 1) := by decide +kernel
theorem dX9_lag_0 : decode cX9_lag 0 = .ok (.iload_n 1, 1) := by decide +kernel
theorem dX9_lag_1 : decode cX9_lag 1 = .ok (.invokestatic 46, 3) := by decide +kernel
theorem dX9_lag_4 : decode cX9_lag 4 = .ok (.ifCond .eq 10, 3) := by decide +kernel
theorem dX9_lag_7 : decode cX9_lag 7 = .ok (.iload_n 2, 1) := by decide +kernel
theorem dX9_lag_8 : decode cX9_lag 8 = .ok (.invokestatic 46, 3) := by decide +kernel
theorem dX9_lag_11 : decode cX9_lag 11 = .ok (.ifCond .ne 5, 3) := by decide +kernel
theorem dX9_lag_14 : decode cX9_lag 14 = .ok (.iconst (-1), 1) := by decide +kernel
theorem dX9_lag_15 : decode cX9_lag 15 = .ok (.ireturn, 1) := by decide +kernel
theorem dX9_lag_16 : decode cX9_lag 16 = .ok (.aload_n 0, 1) := by decide +kernel
theorem dX9_lag_17 : decode cX9_lag 17 = .ok (.getfield 10, 3) := by decide +kernel
theorem dX9_lag_20 : decode cX9_lag 20 = .ok (.getfield 69, 3) := by decide +kernel
theorem dX9_lag_23 : decode cX9_lag 23 = .ok (.iload_n 1, 1) := by decide +kernel
theorem dX9_lag_24 : decode cX9_lag 24 = .ok (.aaload, 1) := by decide +kernel
theorem dX9_lag_25 : decode cX9_lag 25 = .ok (.astore_n 3, 1) := by decide +kernel
theorem dX9_lag_26 : decode cX9_lag 26 = .ok (.aload_n 3, 1) := by decide +kernel
theorem dX9_lag_27 : decode cX9_lag 27 = .ok (.ifnonnull 15, 3) := by decide +kernel
theorem dX9_lag_30 : decode cX9_lag 30 = .ok (.aload_n 0, 1) := by decide +kernel
theorem dX9_lag_31 : decode cX9_lag 31 = .ok (.getfield 10, 3) := by decide +kernel
theorem dX9_lag_34 : decode cX9_lag 34 = .ok (.iload_n 1, 1) := by decide +kernel
theorem dX9_lag_35 : decode cX9_lag 35 = .ok (.invokevirtual 85, 3) := by decide +kernel
theorem dX9_lag_38 : decode cX9_lag 38 = .ok (.invokestatic 62, 3) := by decide +kernel
theorem dX9_lag_41 : decode cX9_lag 41 = .ok (.ireturn, 1) := by decide +kernel
theorem dX9_lag_42 : decode cX9_lag 42 = .ok (.aload_n 0, 1) := by decide +kernel
theorem dX9_lag_43 : decode cX9_lag 43 = .ok (.getfield 10, 3) := by decide +kernel
theorem dX9_lag_46 : decode cX9_lag 46 = .ok (.getfield 69, 3) := by decide +kernel
theorem dX9_lag_49 : decode cX9_lag 49 = .ok (.iload_n 2, 1) := by decide +kernel
theorem dX9_lag_50 : decode cX9_lag 50 = .ok (.aaload, 1) := by decide +kernel
theorem dX9_lag_51 : decode cX9_lag 51 = .ok (.astore 4, 2) := by decide +kernel
theorem dX9_lag_53 : decode cX9_lag 53 = .ok (.aload 4, 2) := by decide +kernel
theorem dX9_lag_55 : decode cX9_lag 55 = .ok (.ifnonnull 15, 3) := by decide +kernel
theorem dX9_lag_58 : decode cX9_lag 58 = .ok (.aload_n 0, 1) := by decide +kernel
theorem dX9_lag_59 : decode cX9_lag 59 = .ok (.getfield 10, 3) := by decide +kernel
theorem dX9_lag_62 : decode cX9_lag 62 = .ok (.iload_n 2, 1) := by decide +kernel
theorem dX9_lag_63 : decode cX9_lag 63 = .ok (.invokevirtual 85, 3) := by decide +kernel
theorem dX9_lag_66 : decode cX9_lag 66 = .ok (.invokestatic 62, 3) := by decide +kernel
theorem dX9_lag_69 : decode cX9_lag 69 = .ok (.ireturn, 1) := by decide +kernel
theorem dX9_lag_70 : decode cX9_lag 70 = .ok (.iconst 0, 1) := by decide +kernel
theorem dX9_lag_71 : decode cX9_lag 71 = .ok (.istore 5, 2) := by decide +kernel
theorem dX9_lag_73 : decode cX9_lag 73 = .ok (.aload_n 3, 1) := by decide +kernel
theorem dX9_lag_74 : decode cX9_lag 74 = .ok (.aload 4, 2) := by decide +kernel
theorem dX9_lag_76 : decode cX9_lag 76 = .ok (.iconst 0, 1) := by decide +kernel
theorem dX9_lag_77 : decode cX9_lag 77 = .ok (.invokestatic 196, 3) := by decide +kernel
theorem dX9_lag_80 : decode cX9_lag 80 = .ok (.istore 6, 2) := by decide +kernel
theorem dX9_lag_82 : decode cX9_lag 82 = .ok (.iconst 1, 1) := by decide +kernel
theorem dX9_lag_83 : decode cX9_lag 83 = .ok (.istore 7, 2) := by decide +kernel
theorem dX9_lag_85 : decode cX9_lag 85 = .ok (.iload 7, 2) := by decide +kernel
theorem dX9_lag_87 : decode cX9_lag 87 = .ok (.bipush 19, 2) := by decide +kernel
theorem dX9_lag_89 : decode cX9_lag 89 = .ok (.if_icmp .gt 61, 3) := by decide +kernel
theorem dX9_lag_92 : decode cX9_lag 92 = .ok (.aload_n 3, 1) := by decide +kernel
theorem dX9_lag_93 : decode cX9_lag 93 = .ok (.aload 4, 2) := by decide +kernel
theorem dX9_lag_95 : decode cX9_lag 95 = .ok (.iload 7, 2) := by decide +kernel
theorem dX9_lag_97 : decode cX9_lag 97 = .ok (.ineg, 1) := by decide +kernel
theorem dX9_lag_98 : decode cX9_lag 98 = .ok (.invokestatic 196, 3) := by decide +kernel
theorem dX9_lag_101 : decode cX9_lag 101 = .ok (.istore 8, 2) := by decide +kernel
theorem dX9_lag_103 : decode cX9_lag 103 = .ok (.iload 8, 2) := by decide +kernel
theorem dX9_lag_105 : decode cX9_lag 105 = .ok (.iload 6, 2) := by decide +kernel
theorem dX9_lag_107 : decode cX9_lag 107 = .ok (.if_icmp .le 12, 3) := by decide +kernel
theorem dX9_lag_110 : decode cX9_lag 110 = .ok (.iload 7, 2) := by decide +kernel
theorem dX9_lag_112 : decode cX9_lag 112 = .ok (.ineg, 1) := by decide +kernel
theorem dX9_lag_113 : decode cX9_lag 113 = .ok (.istore 5, 2) := by decide +kernel
theorem dX9_lag_115 : decode cX9_lag 115 = .ok (.iload 8, 2) := by decide +kernel
theorem dX9_lag_117 : decode cX9_lag 117 = .ok (.istore 6, 2) := by decide +kernel
theorem dX9_lag_119 : decode cX9_lag 119 = .ok (.aload_n 3, 1) := by decide +kernel
theorem dX9_lag_120 : decode cX9_lag 120 = .ok (.aload 4, 2) := by decide +kernel
theorem dX9_lag_122 : decode cX9_lag 122 = .ok (.iload 7, 2) := by decide +kernel
theorem dX9_lag_124 : decode cX9_lag 124 = .ok (.invokestatic 196, 3) := by decide +kernel
theorem dX9_lag_127 : decode cX9_lag 127 = .ok (.istore 9, 2) := by decide +kernel
theorem dX9_lag_129 : decode cX9_lag 129 = .ok (.iload 9, 2) := by decide +kernel
theorem dX9_lag_131 : decode cX9_lag 131 = .ok (.iload 6, 2) := by decide +kernel
theorem dX9_lag_133 : decode cX9_lag 133 = .ok (.if_icmp .le 11, 3) := by decide +kernel
theorem dX9_lag_136 : decode cX9_lag 136 = .ok (.iload 7, 2) := by decide +kernel
theorem dX9_lag_138 : decode cX9_lag 138 = .ok (.istore 5, 2) := by decide +kernel
theorem dX9_lag_140 : decode cX9_lag 140 = .ok (.iload 9, 2) := by decide +kernel
theorem dX9_lag_142 : decode cX9_lag 142 = .ok (.istore 6, 2) := by decide +kernel
theorem dX9_lag_144 : decode cX9_lag 144 = .ok (.iinc 7 1, 3) := by decide +kernel
theorem dX9_lag_147 : decode cX9_lag 147 = .ok (.goto (-62), 3) := by decide +kernel
theorem dX9_lag_150 : decode cX9_lag 150 = .ok (.iload 6, 2) := by decide +kernel
theorem dX9_lag_152 : decode cX9_lag 152 = .ok (.ifCond .ne 8, 3) := by decide +kernel
theorem dX9_lag_155 : decode cX9_lag 155 = .ok (.bipush (-4), 2) := by decide +kernel
theorem dX9_lag_157 : decode cX9_lag 157 = .ok (.goto 8, 3) := by decide +kernel
theorem dX9_lag_160 : decode cX9_lag 160 = .ok (.bipush 100, 2) := by decide +kernel
theorem dX9_lag_162 : decode cX9_lag 162 = .ok (.iload 5, 2) := by decide +kernel
theorem dX9_lag_164 : decode cX9_lag 164 = .ok (.iadd, 1) := by decide +kernel
theorem dX9_lag_165 : decode cX9_lag 165 = .ok (.ireturn, 1) := by decide +kernel
theorem dX9_vote_0 : decode cX9_vote 0 = .ok (.iload_n 1, 1) := by decide +kernel
theorem dX9_vote_1 : decode cX9_vote 1 = .ok (.invokestatic 46, 3) := by decide +kernel
theorem dX9_vote_4 : decode cX9_vote 4 = .ok (.ifCond .eq 25, 3) := by decide +kernel
theorem dX9_vote_7 : decode cX9_vote 7 = .ok (.iload_n 2, 1) := by decide +kernel
theorem dX9_vote_8 : decode cX9_vote 8 = .ok (.invokestatic 46, 3) := by decide +kernel
theorem dX9_vote_11 : decode cX9_vote 11 = .ok (.ifCond .eq 18, 3) := by decide +kernel
theorem dX9_vote_14 : decode cX9_vote 14 = .ok (.iload_n 3, 1) := by decide +kernel
theorem dX9_vote_15 : decode cX9_vote 15 = .ok (.invokestatic 46, 3) := by decide +kernel
theorem dX9_vote_18 : decode cX9_vote 18 = .ok (.ifCond .eq 11, 3) := by decide +kernel
theorem dX9_vote_21 : decode cX9_vote 21 = .ok (.iload 4, 2) := by decide +kernel
theorem dX9_vote_23 : decode cX9_vote 23 = .ok (.invokestatic 46, 3) := by decide +kernel
theorem dX9_vote_26 : decode cX9_vote 26 = .ok (.ifCond .ne 5, 3) := by decide +kernel
theorem dX9_vote_29 : decode cX9_vote 29 = .ok (.iconst (-1), 1) := by decide +kernel
theorem dX9_vote_30 : decode cX9_vote 30 = .ok (.ireturn, 1) := by decide +kernel
theorem dX9_vote_31 : decode cX9_vote 31 = .ok (.aload_n 0, 1) := by decide +kernel
theorem dX9_vote_32 : decode cX9_vote 32 = .ok (.getfield 10, 3) := by decide +kernel
theorem dX9_vote_35 : decode cX9_vote 35 = .ok (.getfield 69, 3) := by decide +kernel
theorem dX9_vote_38 : decode cX9_vote 38 = .ok (.iload_n 2, 1) := by decide +kernel
theorem dX9_vote_39 : decode cX9_vote 39 = .ok (.aaload, 1) := by decide +kernel
theorem dX9_vote_40 : decode cX9_vote 40 = .ok (.astore 5, 2) := by decide +kernel
theorem dX9_vote_42 : decode cX9_vote 42 = .ok (.aload 5, 2) := by decide +kernel
theorem dX9_vote_44 : decode cX9_vote 44 = .ok (.ifnonnull 15, 3) := by decide +kernel
theorem dX9_vote_47 : decode cX9_vote 47 = .ok (.aload_n 0, 1) := by decide +kernel
theorem dX9_vote_48 : decode cX9_vote 48 = .ok (.getfield 10, 3) := by decide +kernel
theorem dX9_vote_51 : decode cX9_vote 51 = .ok (.iload_n 2, 1) := by decide +kernel
theorem dX9_vote_52 : decode cX9_vote 52 = .ok (.invokevirtual 85, 3) := by decide +kernel
theorem dX9_vote_55 : decode cX9_vote 55 = .ok (.invokestatic 62, 3) := by decide +kernel
theorem dX9_vote_58 : decode cX9_vote 58 = .ok (.ireturn, 1) := by decide +kernel
theorem dX9_vote_59 : decode cX9_vote 59 = .ok (.aload_n 0, 1) := by decide +kernel
theorem dX9_vote_60 : decode cX9_vote 60 = .ok (.getfield 10, 3) := by decide +kernel
theorem dX9_vote_63 : decode cX9_vote 63 = .ok (.getfield 69, 3) := by decide +kernel
theorem dX9_vote_66 : decode cX9_vote 66 = .ok (.iload_n 3, 1) := by decide +kernel
theorem dX9_vote_67 : decode cX9_vote 67 = .ok (.aaload, 1) := by decide +kernel
theorem dX9_vote_68 : decode cX9_vote 68 = .ok (.astore 6, 2) := by decide +kernel
theorem dX9_vote_70 : decode cX9_vote 70 = .ok (.aload 6, 2) := by decide +kernel
theorem dX9_vote_72 : decode cX9_vote 72 = .ok (.ifnonnull 15, 3) := by decide +kernel
theorem dX9_vote_75 : decode cX9_vote 75 = .ok (.aload_n 0, 1) := by decide +kernel
theorem dX9_vote_76 : decode cX9_vote 76 = .ok (.getfield 10, 3) := by decide +kernel
theorem dX9_vote_79 : decode cX9_vote 79 = .ok (.iload_n 3, 1) := by decide +kernel
theorem dX9_vote_80 : decode cX9_vote 80 = .ok (.invokevirtual 85, 3) := by decide +kernel
theorem dX9_vote_83 : decode cX9_vote 83 = .ok (.invokestatic 62, 3) := by decide +kernel
theorem dX9_vote_86 : decode cX9_vote 86 = .ok (.ireturn, 1) := by decide +kernel
theorem dX9_vote_87 : decode cX9_vote 87 = .ok (.aload_n 0, 1) := by decide +kernel
theorem dX9_vote_88 : decode cX9_vote 88 = .ok (.getfield 10, 3) := by decide +kernel
theorem dX9_vote_91 : decode cX9_vote 91 = .ok (.getfield 69, 3) := by decide +kernel
theorem dX9_vote_94 : decode cX9_vote 94 = .ok (.iload 4, 2) := by decide +kernel
theorem dX9_vote_96 : decode cX9_vote 96 = .ok (.aaload, 1) := by decide +kernel
theorem dX9_vote_97 : decode cX9_vote 97 = .ok (.astore 7, 2) := by decide +kernel
theorem dX9_vote_99 : decode cX9_vote 99 = .ok (.aload 7, 2) := by decide +kernel
theorem dX9_vote_101 : decode cX9_vote 101 = .ok (.ifnonnull 16, 3) := by decide +kernel
theorem dX9_vote_104 : decode cX9_vote 104 = .ok (.aload_n 0, 1) := by decide +kernel
theorem dX9_vote_105 : decode cX9_vote 105 = .ok (.getfield 10, 3) := by decide +kernel
theorem dX9_vote_108 : decode cX9_vote 108 = .ok (.iload 4, 2) := by decide +kernel
theorem dX9_vote_110 : decode cX9_vote 110 = .ok (.invokevirtual 85, 3) := by decide +kernel
theorem dX9_vote_113 : decode cX9_vote 113 = .ok (.invokestatic 62, 3) := by decide +kernel
theorem dX9_vote_116 : decode cX9_vote 116 = .ok (.ireturn, 1) := by decide +kernel
theorem dX9_vote_117 : decode cX9_vote 117 = .ok (.aload 5, 2) := by decide +kernel
theorem dX9_vote_119 : decode cX9_vote 119 = .ok (.getfield 88, 3) := by decide +kernel
theorem dX9_vote_122 : decode cX9_vote 122 = .ok (.aload 6, 2) := by decide +kernel
theorem dX9_vote_124 : decode cX9_vote 124 = .ok (.getfield 88, 3) := by decide +kernel
theorem dX9_vote_127 : decode cX9_vote 127 = .ok (.if_icmp .ne 16, 3) := by decide +kernel
theorem dX9_vote_130 : decode cX9_vote 130 = .ok (.aload 5, 2) := by decide +kernel
theorem dX9_vote_132 : decode cX9_vote 132 = .ok (.getfield 88, 3) := by decide +kernel
theorem dX9_vote_135 : decode cX9_vote 135 = .ok (.aload 7, 2) := by decide +kernel
theorem dX9_vote_137 : decode cX9_vote 137 = .ok (.getfield 88, 3) := by decide +kernel
theorem dX9_vote_140 : decode cX9_vote 140 = .ok (.if_icmp .eq 6, 3) := by decide +kernel
theorem dX9_vote_143 : decode cX9_vote 143 = .ok (.bipush (-2), 2) := by decide +kernel
theorem dX9_vote_145 : decode cX9_vote 145 = .ok (.ireturn, 1) := by decide +kernel
theorem dX9_vote_146 : decode cX9_vote 146 = .ok (.aload 5, 2) := by decide +kernel
theorem dX9_vote_148 : decode cX9_vote 148 = .ok (.invokevirtual 140, 3) := by decide +kernel
theorem dX9_vote_151 : decode cX9_vote 151 = .ok (.astore 8, 2) := by decide +kernel
theorem dX9_vote_153 : decode cX9_vote 153 = .ok (.iconst 0, 1) := by decide +kernel
theorem dX9_vote_154 : decode cX9_vote 154 = .ok (.istore 9, 2) := by decide +kernel
theorem dX9_vote_156 : decode cX9_vote 156 = .ok (.iconst 0, 1) := by decide +kernel
theorem dX9_vote_157 : decode cX9_vote 157 = .ok (.istore 10, 2) := by decide +kernel
theorem dX9_vote_159 : decode cX9_vote 159 = .ok (.iload 10, 2) := by decide +kernel
theorem dX9_vote_161 : decode cX9_vote 161 = .ok (.aload 5, 2) := by decide +kernel
theorem dX9_vote_163 : decode cX9_vote 163 = .ok (.getfield 88, 3) := by decide +kernel
theorem dX9_vote_166 : decode cX9_vote 166 = .ok (.if_icmp .ge 99, 3) := by decide +kernel
theorem dX9_vote_169 : decode cX9_vote 169 = .ok (.aload 5, 2) := by decide +kernel
theorem dX9_vote_171 : decode cX9_vote 171 = .ok (.iload 10, 2) := by decide +kernel
theorem dX9_vote_173 : decode cX9_vote 173 = .ok (.aload 6, 2) := by decide +kernel
theorem dX9_vote_175 : decode cX9_vote 175 = .ok (.iload 10, 2) := by decide +kernel
theorem dX9_vote_177 : decode cX9_vote 177 = .ok (.invokestatic 200, 3) := by decide +kernel
theorem dX9_vote_180 : decode cX9_vote 180 = .ok (.ifCond .ne 79, 3) := by decide +kernel
theorem dX9_vote_183 : decode cX9_vote 183 = .ok (.aload 5, 2) := by decide +kernel
theorem dX9_vote_185 : decode cX9_vote 185 = .ok (.iload 10, 2) := by decide +kernel
theorem dX9_vote_187 : decode cX9_vote 187 = .ok (.aload 7, 2) := by decide +kernel
theorem dX9_vote_189 : decode cX9_vote 189 = .ok (.iload 10, 2) := by decide +kernel
theorem dX9_vote_191 : decode cX9_vote 191 = .ok (.invokestatic 200, 3) := by decide +kernel
theorem dX9_vote_194 : decode cX9_vote 194 = .ok (.ifCond .eq 6, 3) := by decide +kernel
theorem dX9_vote_197 : decode cX9_vote 197 = .ok (.goto 62, 3) := by decide +kernel
theorem dX9_vote_200 : decode cX9_vote 200 = .ok (.aload 6, 2) := by decide +kernel
theorem dX9_vote_202 : decode cX9_vote 202 = .ok (.iload 10, 2) := by decide +kernel
theorem dX9_vote_204 : decode cX9_vote 204 = .ok (.aload 7, 2) := by decide +kernel
theorem dX9_vote_206 : decode cX9_vote 206 = .ok (.iload 10, 2) := by decide +kernel
theorem dX9_vote_208 : decode cX9_vote 208 = .ok (.invokestatic 200, 3) := by decide +kernel
theorem dX9_vote_211 : decode cX9_vote 211 = .ok (.ifCond .ne 9, 3) := by decide +kernel
theorem dX9_vote_214 : decode cX9_vote 214 = .ok (.iinc 9 1, 3) := by decide +kernel
theorem dX9_vote_217 : decode cX9_vote 217 = .ok (.goto 42, 3) := by decide +kernel
theorem dX9_vote_220 : decode cX9_vote 220 = .ok (.aload 6, 2) := by decide +kernel
theorem dX9_vote_222 : decode cX9_vote 222 = .ok (.getfield 107, 3) := by decide +kernel
theorem dX9_vote_225 : decode cX9_vote 225 = .ok (.iload 10, 2) := by decide +kernel
theorem dX9_vote_227 : decode cX9_vote 227 = .ok (.iaload, 1) := by decide +kernel
theorem dX9_vote_228 : decode cX9_vote 228 = .ok (.aload 8, 2) := by decide +kernel
theorem dX9_vote_230 : decode cX9_vote 230 = .ok (.getfield 77, 3) := by decide +kernel
theorem dX9_vote_233 : decode cX9_vote 233 = .ok (.invokestatic 204, 3) := by decide +kernel
theorem dX9_vote_236 : decode cX9_vote 236 = .ok (.ifCond .eq 17, 3) := by decide +kernel
theorem dX9_vote_239 : decode cX9_vote 239 = .ok (.aload 8, 2) := by decide +kernel
theorem dX9_vote_241 : decode cX9_vote 241 = .ok (.iload 10, 2) := by decide +kernel
theorem dX9_vote_243 : decode cX9_vote 243 = .ok (.aload 6, 2) := by decide +kernel
theorem dX9_vote_245 : decode cX9_vote 245 = .ok (.iload 10, 2) := by decide +kernel
theorem dX9_vote_247 : decode cX9_vote 247 = .ok (.invokevirtual 210, 3) := by decide +kernel
theorem dX9_vote_250 : decode cX9_vote 250 = .ok (.goto 9, 3) := by decide +kernel
theorem dX9_vote_253 : decode cX9_vote 253 = .ok (.bipush (-20), 2) := by decide +kernel
theorem dX9_vote_255 : decode cX9_vote 255 = .ok (.iload 10, 2) := by decide +kernel
theorem dX9_vote_257 : decode cX9_vote 257 = .ok (.isub, 1) := by decide +kernel
theorem dX9_vote_258 : decode cX9_vote 258 = .ok (.ireturn, 1) := by decide +kernel
theorem dX9_vote_259 : decode cX9_vote 259 = .ok (.iinc 10 1, 3) := by decide +kernel
theorem dX9_vote_262 : decode cX9_vote 262 = .ok (.goto (-103), 3) := by decide +kernel
theorem dX9_vote_265 : decode cX9_vote 265 = .ok (.aload_n 0, 1) := by decide +kernel
theorem dX9_vote_266 : decode cX9_vote 266 = .ok (.getfield 10, 3) := by decide +kernel
theorem dX9_vote_269 : decode cX9_vote 269 = .ok (.iload_n 1, 1) := by decide +kernel
theorem dX9_vote_270 : decode cX9_vote 270 = .ok (.aload 8, 2) := by decide +kernel
theorem dX9_vote_272 : decode cX9_vote 272 = .ok (.invokevirtual 54, 3) := by decide +kernel
theorem dX9_vote_275 : decode cX9_vote 275 = .ok (.iload 9, 2) := by decide +kernel
theorem dX9_vote_277 : decode cX9_vote 277 = .ok (.ireturn, 1) := by decide +kernel
theorem dX9_patch_0 : decode cX9_patch 0 = .ok (.iload_n 1, 1) := by decide +kernel
theorem dX9_patch_1 : decode cX9_patch 1 = .ok (.invokestatic 214, 3) := by decide +kernel
theorem dX9_patch_4 : decode cX9_patch 4 = .ok (.ifCond .ne 5, 3) := by decide +kernel
theorem dX9_patch_7 : decode cX9_patch 7 = .ok (.iconst (-1), 1) := by decide +kernel
theorem dX9_patch_8 : decode cX9_patch 8 = .ok (.ireturn, 1) := by decide +kernel
theorem dX9_patch_9 : decode cX9_patch 9 = .ok (.aload_n 0, 1) := by decide +kernel
theorem dX9_patch_10 : decode cX9_patch 10 = .ok (.getfield 147, 3) := by decide +kernel
theorem dX9_patch_13 : decode cX9_patch 13 = .ok (.ifnonnull 6, 3) := by decide +kernel
theorem dX9_patch_16 : decode cX9_patch 16 = .ok (.bipush (-2), 2) := by decide +kernel
theorem dX9_patch_18 : decode cX9_patch 18 = .ok (.ireturn, 1) := by decide +kernel
theorem dX9_patch_19 : decode cX9_patch 19 = .ok (.new 20, 3) := by decide +kernel
theorem dX9_patch_22 : decode cX9_patch 22 = .ok (.dup, 1) := by decide +kernel
theorem dX9_patch_23 : decode cX9_patch 23 = .ok (.aload_n 0, 1) := by decide +kernel
theorem dX9_patch_24 : decode cX9_patch 24 = .ok (.getfield 147, 3) := by decide +kernel
theorem dX9_patch_27 : decode cX9_patch 27 = .ok (.invokespecial 217, 3) := by decide +kernel
theorem dX9_patch_30 : decode cX9_patch 30 = .ok (.astore_n 2, 1) := by decide +kernel
theorem dX9_patch_31 : decode cX9_patch 31 = .ok (.aload_n 0, 1) := by decide +kernel
theorem dX9_patch_32 : decode cX9_patch 32 = .ok (.getfield 22, 3) := by decide +kernel
theorem dX9_patch_35 : decode cX9_patch 35 = .ok (.iload_n 1, 1) := by decide +kernel
theorem dX9_patch_36 : decode cX9_patch 36 = .ok (.aload_n 2, 1) := by decide +kernel
theorem dX9_patch_37 : decode cX9_patch 37 = .ok (.aastore, 1) := by decide +kernel
theorem dX9_patch_38 : decode cX9_patch 38 = .ok (.aload_n 2, 1) := by decide +kernel
theorem dX9_patch_39 : decode cX9_patch 39 = .ok (.getfield 220, 3) := by decide +kernel
theorem dX9_patch_42 : decode cX9_patch 42 = .ok (.aload_n 2, 1) := by decide +kernel
theorem dX9_patch_43 : decode cX9_patch 43 = .ok (.iconst 0, 1) := by decide +kernel
theorem dX9_patch_44 : decode cX9_patch 44 = .ok (.invokevirtual 221, 3) := by decide +kernel
theorem dX9_patch_47 : decode cX9_patch 47 = .ok (.isub, 1) := by decide +kernel
theorem dX9_patch_48 : decode cX9_patch 48 = .ok (.ireturn, 1) := by decide +kernel
theorem dX9_turn_0 : decode cX9_turn 0 = .ok (.iload_n 1, 1) := by decide +kernel
theorem dX9_turn_1 : decode cX9_turn 1 = .ok (.invokestatic 214, 3) := by decide +kernel
theorem dX9_turn_4 : decode cX9_turn 4 = .ok (.ifCond .ne 5, 3) := by decide +kernel
theorem dX9_turn_7 : decode cX9_turn 7 = .ok (.iconst (-1), 1) := by decide +kernel
theorem dX9_turn_8 : decode cX9_turn 8 = .ok (.ireturn, 1) := by decide +kernel
theorem dX9_turn_9 : decode cX9_turn 9 = .ok (.aload_n 0, 1) := by decide +kernel
theorem dX9_turn_10 : decode cX9_turn 10 = .ok (.getfield 22, 3) := by decide +kernel
theorem dX9_turn_13 : decode cX9_turn 13 = .ok (.iload_n 1, 1) := by decide +kernel
theorem dX9_turn_14 : decode cX9_turn 14 = .ok (.aaload, 1) := by decide +kernel
theorem dX9_turn_15 : decode cX9_turn 15 = .ok (.astore_n 2, 1) := by decide +kernel
theorem dX9_turn_16 : decode cX9_turn 16 = .ok (.aload_n 2, 1) := by decide +kernel
theorem dX9_turn_17 : decode cX9_turn 17 = .ok (.ifnonnull 6, 3) := by decide +kernel
theorem dX9_turn_20 : decode cX9_turn 20 = .ok (.bipush (-2), 2) := by decide +kernel
theorem dX9_turn_22 : decode cX9_turn 22 = .ok (.ireturn, 1) := by decide +kernel
theorem dX9_turn_23 : decode cX9_turn 23 = .ok (.aload_n 2, 1) := by decide +kernel
theorem dX9_turn_24 : decode cX9_turn 24 = .ok (.invokevirtual 224, 3) := by decide +kernel
theorem dX9_turn_27 : decode cX9_turn 27 = .ok (.aload_n 2, 1) := by decide +kernel
theorem dX9_turn_28 : decode cX9_turn 28 = .ok (.getfield 220, 3) := by decide +kernel
theorem dX9_turn_31 : decode cX9_turn 31 = .ok (.ireturn, 1) := by decide +kernel
theorem dX9_act_0 : decode cX9_act 0 = .ok (.iload_n 1, 1) := by decide +kernel
theorem dX9_act_1 : decode cX9_act 1 = .ok (.invokestatic 214, 3) := by decide +kernel
theorem dX9_act_4 : decode cX9_act 4 = .ok (.ifCond .eq 16, 3) := by decide +kernel
theorem dX9_act_7 : decode cX9_act 7 = .ok (.iload_n 2, 1) := by decide +kernel
theorem dX9_act_8 : decode cX9_act 8 = .ok (.ifCond .lt 12, 3) := by decide +kernel
theorem dX9_act_11 : decode cX9_act 11 = .ok (.iload_n 3, 1) := by decide +kernel
theorem dX9_act_12 : decode cX9_act 12 = .ok (.iconst 0, 1) := by decide +kernel
theorem dX9_act_13 : decode cX9_act 13 = .ok (.iconst 2, 1) := by decide +kernel
theorem dX9_act_14 : decode cX9_act 14 = .ok (.invokestatic 50, 3) := by decide +kernel
theorem dX9_act_17 : decode cX9_act 17 = .ok (.ifCond .ne 5, 3) := by decide +kernel
theorem dX9_act_20 : decode cX9_act 20 = .ok (.iconst (-1), 1) := by decide +kernel
theorem dX9_act_21 : decode cX9_act 21 = .ok (.ireturn, 1) := by decide +kernel
theorem dX9_act_22 : decode cX9_act 22 = .ok (.aload_n 0, 1) := by decide +kernel
theorem dX9_act_23 : decode cX9_act 23 = .ok (.getfield 22, 3) := by decide +kernel
theorem dX9_act_26 : decode cX9_act 26 = .ok (.iload_n 1, 1) := by decide +kernel
theorem dX9_act_27 : decode cX9_act 27 = .ok (.aaload, 1) := by decide +kernel
theorem dX9_act_28 : decode cX9_act 28 = .ok (.astore 4, 2) := by decide +kernel
theorem dX9_act_30 : decode cX9_act 30 = .ok (.aload 4, 2) := by decide +kernel
theorem dX9_act_32 : decode cX9_act 32 = .ok (.ifnonnull 6, 3) := by decide +kernel
theorem dX9_act_35 : decode cX9_act 35 = .ok (.bipush (-2), 2) := by decide +kernel
theorem dX9_act_37 : decode cX9_act 37 = .ok (.ireturn, 1) := by decide +kernel
theorem dX9_act_38 : decode cX9_act 38 = .ok (.iload_n 2, 1) := by decide +kernel
theorem dX9_act_39 : decode cX9_act 39 = .ok (.aload 4, 2) := by decide +kernel
theorem dX9_act_41 : decode cX9_act 41 = .ok (.getfield 220, 3) := by decide +kernel
theorem dX9_act_44 : decode cX9_act 44 = .ok (.if_icmp .lt 6, 3) := by decide +kernel
theorem dX9_act_47 : decode cX9_act 47 = .ok (.bipush (-4), 2) := by decide +kernel
theorem dX9_act_49 : decode cX9_act 49 = .ok (.ireturn, 1) := by decide +kernel
theorem dX9_act_50 : decode cX9_act 50 = .ok (.iload_n 3, 1) := by decide +kernel
theorem dX9_act_51 : decode cX9_act 51 = .ok (.ifCond .ne 11, 3) := by decide +kernel
theorem dX9_act_54 : decode cX9_act 54 = .ok (.aload 4, 2) := by decide +kernel
theorem dX9_act_56 : decode cX9_act 56 = .ok (.getfield 227, 3) := by decide +kernel
theorem dX9_act_59 : decode cX9_act 59 = .ok (.iload_n 2, 1) := by decide +kernel
theorem dX9_act_60 : decode cX9_act 60 = .ok (.iaload, 1) := by decide +kernel
theorem dX9_act_61 : decode cX9_act 61 = .ok (.ireturn, 1) := by decide +kernel
theorem dX9_act_62 : decode cX9_act 62 = .ok (.iload_n 3, 1) := by decide +kernel
theorem dX9_act_63 : decode cX9_act 63 = .ok (.iconst 1, 1) := by decide +kernel
theorem dX9_act_64 : decode cX9_act 64 = .ok (.if_icmp .ne 28, 3) := by decide +kernel
theorem dX9_act_67 : decode cX9_act 67 = .ok (.aload 4, 2) := by decide +kernel
theorem dX9_act_69 : decode cX9_act 69 = .ok (.iload_n 2, 1) := by decide +kernel
theorem dX9_act_70 : decode cX9_act 70 = .ok (.invokevirtual 230, 3) := by decide +kernel
theorem dX9_act_73 : decode cX9_act 73 = .ok (.ifCond .eq 16, 3) := by decide +kernel
theorem dX9_act_76 : decode cX9_act 76 = .ok (.aload 4, 2) := by decide +kernel
theorem dX9_act_78 : decode cX9_act 78 = .ok (.getfield 233, 3) := by decide +kernel
theorem dX9_act_81 : decode cX9_act 81 = .ok (.getfield 107, 3) := by decide +kernel
theorem dX9_act_84 : decode cX9_act 84 = .ok (.iload_n 2, 1) := by decide +kernel
theorem dX9_act_85 : decode cX9_act 85 = .ok (.iaload, 1) := by decide +kernel
theorem dX9_act_86 : decode cX9_act 86 = .ok (.goto 5, 3) := by decide +kernel
theorem dX9_act_89 : decode cX9_act 89 = .ok (.bipush (-4), 2) := by decide +kernel
theorem dX9_act_91 : decode cX9_act 91 = .ok (.ireturn, 1) := by decide +kernel
theorem dX9_act_92 : decode cX9_act 92 = .ok (.aload 4, 2) := by decide +kernel
theorem dX9_act_94 : decode cX9_act 94 = .ok (.iload_n 2, 1) := by decide +kernel
theorem dX9_act_95 : decode cX9_act 95 = .ok (.invokevirtual 236, 3) := by decide +kernel
theorem dX9_act_98 : decode cX9_act 98 = .ok (.ifCond .eq 16, 3) := by decide +kernel
theorem dX9_act_101 : decode cX9_act 101 = .ok (.aload 4, 2) := by decide +kernel
theorem dX9_act_103 : decode cX9_act 103 = .ok (.getfield 239, 3) := by decide +kernel
theorem dX9_act_106 : decode cX9_act 106 = .ok (.getfield 107, 3) := by decide +kernel
theorem dX9_act_109 : decode cX9_act 109 = .ok (.iload_n 2, 1) := by decide +kernel
theorem dX9_act_110 : decode cX9_act 110 = .ok (.iaload, 1) := by decide +kernel
theorem dX9_act_111 : decode cX9_act 111 = .ok (.goto 5, 3) := by decide +kernel
theorem dX9_act_114 : decode cX9_act 114 = .ok (.bipush (-4), 2) := by decide +kernel
theorem dX9_act_116 : decode cX9_act 116 = .ok (.ireturn, 1) := by decide +kernel
theorem dX9_apply_0 : decode cX9_apply 0 = .ok (.iload_n 1, 1) := by decide +kernel
theorem dX9_apply_1 : decode cX9_apply 1 = .ok (.invokestatic 214, 3) := by decide +kernel
theorem dX9_apply_4 : decode cX9_apply 4 = .ok (.ifCond .eq 10, 3) := by decide +kernel
theorem dX9_apply_7 : decode cX9_apply 7 = .ok (.iload_n 2, 1) := by decide +kernel
theorem dX9_apply_8 : decode cX9_apply 8 = .ok (.invokestatic 46, 3) := by decide +kernel
theorem dX9_apply_11 : decode cX9_apply 11 = .ok (.ifCond .ne 5, 3) := by decide +kernel
theorem dX9_apply_14 : decode cX9_apply 14 = .ok (.iconst (-1), 1) := by decide +kernel
theorem dX9_apply_15 : decode cX9_apply 15 = .ok (.ireturn, 1) := by decide +kernel
theorem dX9_apply_16 : decode cX9_apply 16 = .ok (.aload_n 0, 1) := by decide +kernel
theorem dX9_apply_17 : decode cX9_apply 17 = .ok (.getfield 22, 3) := by decide +kernel
theorem dX9_apply_20 : decode cX9_apply 20 = .ok (.iload_n 1, 1) := by decide +kernel
theorem dX9_apply_21 : decode cX9_apply 21 = .ok (.aaload, 1) := by decide +kernel
theorem dX9_apply_22 : decode cX9_apply 22 = .ok (.astore_n 3, 1) := by decide +kernel
theorem dX9_apply_23 : decode cX9_apply 23 = .ok (.aload_n 3, 1) := by decide +kernel
theorem dX9_apply_24 : decode cX9_apply 24 = .ok (.ifnonnull 6, 3) := by decide +kernel
theorem dX9_apply_27 : decode cX9_apply 27 = .ok (.bipush (-2), 2) := by decide +kernel
theorem dX9_apply_29 : decode cX9_apply 29 = .ok (.ireturn, 1) := by decide +kernel
theorem dX9_apply_30 : decode cX9_apply 30 = .ok (.aload_n 0, 1) := by decide +kernel
theorem dX9_apply_31 : decode cX9_apply 31 = .ok (.getfield 10, 3) := by decide +kernel
theorem dX9_apply_34 : decode cX9_apply 34 = .ok (.getfield 69, 3) := by decide +kernel
theorem dX9_apply_37 : decode cX9_apply 37 = .ok (.iload_n 2, 1) := by decide +kernel
theorem dX9_apply_38 : decode cX9_apply 38 = .ok (.aaload, 1) := by decide +kernel
theorem dX9_apply_39 : decode cX9_apply 39 = .ok (.astore 4, 2) := by decide +kernel
theorem dX9_apply_41 : decode cX9_apply 41 = .ok (.aload 4, 2) := by decide +kernel
theorem dX9_apply_43 : decode cX9_apply 43 = .ok (.ifnonnull 15, 3) := by decide +kernel
theorem dX9_apply_46 : decode cX9_apply 46 = .ok (.aload_n 0, 1) := by decide +kernel
theorem dX9_apply_47 : decode cX9_apply 47 = .ok (.getfield 10, 3) := by decide +kernel
theorem dX9_apply_50 : decode cX9_apply 50 = .ok (.iload_n 2, 1) := by decide +kernel
theorem dX9_apply_51 : decode cX9_apply 51 = .ok (.invokevirtual 85, 3) := by decide +kernel
theorem dX9_apply_54 : decode cX9_apply 54 = .ok (.invokestatic 62, 3) := by decide +kernel
theorem dX9_apply_57 : decode cX9_apply 57 = .ok (.ireturn, 1) := by decide +kernel
theorem dX9_apply_58 : decode cX9_apply 58 = .ok (.new 242, 3) := by decide +kernel
theorem dX9_apply_61 : decode cX9_apply 61 = .ok (.dup, 1) := by decide +kernel
theorem dX9_apply_62 : decode cX9_apply 62 = .ok (.aload_n 3, 1) := by decide +kernel
theorem dX9_apply_63 : decode cX9_apply 63 = .ok (.aload 4, 2) := by decide +kernel
theorem dX9_apply_65 : decode cX9_apply 65 = .ok (.invokespecial 244, 3) := by decide +kernel
theorem dX9_apply_68 : decode cX9_apply 68 = .ok (.astore 5, 2) := by decide +kernel
theorem dX9_apply_70 : decode cX9_apply 70 = .ok (.aload 5, 2) := by decide +kernel
theorem dX9_apply_72 : decode cX9_apply 72 = .ok (.invokevirtual 247, 3) := by decide +kernel
theorem dX9_apply_75 : decode cX9_apply 75 = .ok (.istore 6, 2) := by decide +kernel
theorem dX9_apply_77 : decode cX9_apply 77 = .ok (.aload_n 0, 1) := by decide +kernel
theorem dX9_apply_78 : decode cX9_apply 78 = .ok (.aload 5, 2) := by decide +kernel
theorem dX9_apply_80 : decode cX9_apply 80 = .ok (.getfield 250, 3) := by decide +kernel
theorem dX9_apply_83 : decode cX9_apply 83 = .ok (.putfield 121, 3) := by decide +kernel
theorem dX9_apply_86 : decode cX9_apply 86 = .ok (.aload_n 0, 1) := by decide +kernel
theorem dX9_apply_87 : decode cX9_apply 87 = .ok (.getfield 121, 3) := by decide +kernel
theorem dX9_apply_90 : decode cX9_apply 90 = .ok (.ifCond .eq 9, 3) := by decide +kernel
theorem dX9_apply_93 : decode cX9_apply 93 = .ok (.bipush (-20), 2) := by decide +kernel
theorem dX9_apply_95 : decode cX9_apply 95 = .ok (.iload 6, 2) := by decide +kernel
theorem dX9_apply_97 : decode cX9_apply 97 = .ok (.isub, 1) := by decide +kernel
theorem dX9_apply_98 : decode cX9_apply 98 = .ok (.ireturn, 1) := by decide +kernel
theorem dX9_apply_99 : decode cX9_apply 99 = .ok (.aload_n 0, 1) := by decide +kernel
theorem dX9_apply_100 : decode cX9_apply 100 = .ok (.getfield 10, 3) := by decide +kernel
theorem dX9_apply_103 : decode cX9_apply 103 = .ok (.iload_n 2, 1) := by decide +kernel
theorem dX9_apply_104 : decode cX9_apply 104 = .ok (.aload 5, 2) := by decide +kernel
theorem dX9_apply_106 : decode cX9_apply 106 = .ok (.getfield 253, 3) := by decide +kernel
theorem dX9_apply_109 : decode cX9_apply 109 = .ok (.invokevirtual 54, 3) := by decide +kernel
theorem dX9_apply_112 : decode cX9_apply 112 = .ok (.aload 5, 2) := by decide +kernel
theorem dX9_apply_114 : decode cX9_apply 114 = .ok (.getfield 253, 3) := by decide +kernel
theorem dX9_apply_117 : decode cX9_apply 117 = .ok (.getfield 88, 3) := by decide +kernel
theorem dX9_apply_120 : decode cX9_apply 120 = .ok (.ireturn, 1) := by decide +kernel
theorem dX9_log_0 : decode cX9_log 0 = .ok (.iload_n 1, 1) := by decide +kernel
theorem dX9_log_1 : decode cX9_log 1 = .ok (.invokestatic 46, 3) := by decide +kernel
theorem dX9_log_4 : decode cX9_log 4 = .ok (.ifCond .eq 20, 3) := by decide +kernel
theorem dX9_log_7 : decode cX9_log 7 = .ok (.iload_n 2, 1) := by decide +kernel
theorem dX9_log_8 : decode cX9_log 8 = .ok (.invokestatic 46, 3) := by decide +kernel
theorem dX9_log_11 : decode cX9_log 11 = .ok (.ifCond .eq 13, 3) := by decide +kernel
theorem dX9_log_14 : decode cX9_log 14 = .ok (.iload_n 3, 1) := by decide +kernel
theorem dX9_log_15 : decode cX9_log 15 = .ok (.iconst 0, 1) := by decide +kernel
theorem dX9_log_16 : decode cX9_log 16 = .ok (.bipush 7, 2) := by decide +kernel
theorem dX9_log_18 : decode cX9_log 18 = .ok (.invokestatic 50, 3) := by decide +kernel
theorem dX9_log_21 : decode cX9_log 21 = .ok (.ifCond .ne 5, 3) := by decide +kernel
theorem dX9_log_24 : decode cX9_log 24 = .ok (.iconst (-1), 1) := by decide +kernel
theorem dX9_log_25 : decode cX9_log 25 = .ok (.ireturn, 1) := by decide +kernel
theorem dX9_log_26 : decode cX9_log 26 = .ok (.aload_n 0, 1) := by decide +kernel
theorem dX9_log_27 : decode cX9_log 27 = .ok (.getfield 10, 3) := by decide +kernel
theorem dX9_log_30 : decode cX9_log 30 = .ok (.getfield 69, 3) := by decide +kernel
theorem dX9_log_33 : decode cX9_log 33 = .ok (.iload_n 2, 1) := by decide +kernel
theorem dX9_log_34 : decode cX9_log 34 = .ok (.aaload, 1) := by decide +kernel
theorem dX9_log_35 : decode cX9_log 35 = .ok (.astore 5, 2) := by decide +kernel
theorem dX9_log_37 : decode cX9_log 37 = .ok (.aload 5, 2) := by decide +kernel
theorem dX9_log_39 : decode cX9_log 39 = .ok (.ifnonnull 15, 3) := by decide +kernel
theorem dX9_log_42 : decode cX9_log 42 = .ok (.aload_n 0, 1) := by decide +kernel
theorem dX9_log_43 : decode cX9_log 43 = .ok (.getfield 10, 3) := by decide +kernel
theorem dX9_log_46 : decode cX9_log 46 = .ok (.iload_n 2, 1) := by decide +kernel
theorem dX9_log_47 : decode cX9_log 47 = .ok (.invokevirtual 85, 3) := by decide +kernel
theorem dX9_log_50 : decode cX9_log 50 = .ok (.invokestatic 62, 3) := by decide +kernel
theorem dX9_log_53 : decode cX9_log 53 = .ok (.ireturn, 1) := by decide +kernel
theorem dX9_log_54 : decode cX9_log 54 = .ok (.aload 5, 2) := by decide +kernel
theorem dX9_log_56 : decode cX9_log 56 = .ok (.iload_n 3, 1) := by decide +kernel
theorem dX9_log_57 : decode cX9_log 57 = .ok (.invokestatic 95, 3) := by decide +kernel
theorem dX9_log_60 : decode cX9_log 60 = .ok (.istore 6, 2) := by decide +kernel
theorem dX9_log_62 : decode cX9_log 62 = .ok (.iload 6, 2) := by decide +kernel
theorem dX9_log_64 : decode cX9_log 64 = .ok (.ifCond .eq 9, 3) := by decide +kernel
theorem dX9_log_67 : decode cX9_log 67 = .ok (.iload 6, 2) := by decide +kernel
theorem dX9_log_69 : decode cX9_log 69 = .ok (.invokestatic 62, 3) := by decide +kernel
theorem dX9_log_72 : decode cX9_log 72 = .ok (.ireturn, 1) := by decide +kernel
theorem dX9_log_73 : decode cX9_log 73 = .ok (.aload 5, 2) := by decide +kernel
theorem dX9_log_75 : decode cX9_log 75 = .ok (.getfield 88, 3) := by decide +kernel
theorem dX9_log_78 : decode cX9_log 78 = .ok (.iload 4, 2) := by decide +kernel
theorem dX9_log_80 : decode cX9_log 80 = .ok (.invokestatic 256, 3) := by decide +kernel
theorem dX9_log_83 : decode cX9_log 83 = .ok (.istore 7, 2) := by decide +kernel
theorem dX9_log_85 : decode cX9_log 85 = .ok (.iload 7, 2) := by decide +kernel
theorem dX9_log_87 : decode cX9_log 87 = .ok (.bipush 20, 2) := by decide +kernel
theorem dX9_log_89 : decode cX9_log 89 = .ok (.if_icmp .le 6, 3) := by decide +kernel
theorem dX9_log_92 : decode cX9_log 92 = .ok (.bipush (-3), 2) := by decide +kernel
theorem dX9_log_94 : decode cX9_log 94 = .ok (.ireturn, 1) := by decide +kernel
theorem dX9_log_95 : decode cX9_log 95 = .ok (.aload_n 0, 1) := by decide +kernel
theorem dX9_log_96 : decode cX9_log 96 = .ok (.getfield 10, 3) := by decide +kernel
theorem dX9_log_99 : decode cX9_log 99 = .ok (.iload_n 1, 1) := by decide +kernel
theorem dX9_log_100 : decode cX9_log 100 = .ok (.aload_n 0, 1) := by decide +kernel
theorem dX9_log_101 : decode cX9_log 101 = .ok (.aload 5, 2) := by decide +kernel
theorem dX9_log_103 : decode cX9_log 103 = .ok (.new 37, 3) := by decide +kernel
theorem dX9_log_106 : decode cX9_log 106 = .ok (.dup, 1) := by decide +kernel
theorem dX9_log_107 : decode cX9_log 107 = .ok (.iload_n 3, 1) := by decide +kernel
theorem dX9_log_108 : decode cX9_log 108 = .ok (.iload 7, 2) := by decide +kernel
theorem dX9_log_110 : decode cX9_log 110 = .ok (.invokespecial 39, 3) := by decide +kernel
theorem dX9_log_113 : decode cX9_log 113 = .ok (.iload 4, 2) := by decide +kernel
theorem dX9_log_115 : decode cX9_log 115 = .ok (.invokevirtual 259, 3) := by decide +kernel
theorem dX9_log_118 : decode cX9_log 118 = .ok (.invokevirtual 54, 3) := by decide +kernel
theorem dX9_log_121 : decode cX9_log 121 = .ok (.iload 7, 2) := by decide +kernel
theorem dX9_log_123 : decode cX9_log 123 = .ok (.ireturn, 1) := by decide +kernel
theorem dX9_draw_0 : decode cX9_draw 0 = .ok (.iload_n 1, 1) := by decide +kernel
theorem dX9_draw_1 : decode cX9_draw 1 = .ok (.invokestatic 46, 3) := by decide +kernel
theorem dX9_draw_4 : decode cX9_draw 4 = .ok (.ifCond .eq 23, 3) := by decide +kernel
theorem dX9_draw_7 : decode cX9_draw 7 = .ok (.iload_n 2, 1) := by decide +kernel
theorem dX9_draw_8 : decode cX9_draw 8 = .ok (.iconst 0, 1) := by decide +kernel
theorem dX9_draw_9 : decode cX9_draw 9 = .ok (.bipush 10, 2) := by decide +kernel
theorem dX9_draw_11 : decode cX9_draw 11 = .ok (.invokestatic 50, 3) := by decide +kernel
theorem dX9_draw_14 : decode cX9_draw 14 = .ok (.ifCond .eq 13, 3) := by decide +kernel
theorem dX9_draw_17 : decode cX9_draw 17 = .ok (.iload_n 3, 1) := by decide +kernel
theorem dX9_draw_18 : decode cX9_draw 18 = .ok (.iconst 0, 1) := by decide +kernel
theorem dX9_draw_19 : decode cX9_draw 19 = .ok (.bipush 20, 2) := by decide +kernel
theorem dX9_draw_21 : decode cX9_draw 21 = .ok (.invokestatic 50, 3) := by decide +kernel
theorem dX9_draw_24 : decode cX9_draw 24 = .ok (.ifCond .ne 5, 3) := by decide +kernel
theorem dX9_draw_27 : decode cX9_draw 27 = .ok (.iconst (-1), 1) := by decide +kernel
theorem dX9_draw_28 : decode cX9_draw 28 = .ok (.ireturn, 1) := by decide +kernel
theorem dX9_draw_29 : decode cX9_draw 29 = .ok (.new 37, 3) := by decide +kernel
theorem dX9_draw_32 : decode cX9_draw 32 = .ok (.dup, 1) := by decide +kernel
theorem dX9_draw_33 : decode cX9_draw 33 = .ok (.iload_n 2, 1) := by decide +kernel
theorem dX9_draw_34 : decode cX9_draw 34 = .ok (.iload_n 3, 1) := by decide +kernel
theorem dX9_draw_35 : decode cX9_draw 35 = .ok (.invokespecial 39, 3) := by decide +kernel
theorem dX9_draw_38 : decode cX9_draw 38 = .ok (.astore 5, 2) := by decide +kernel
theorem dX9_draw_40 : decode cX9_draw 40 = .ok (.iload 4, 2) := by decide +kernel
theorem dX9_draw_42 : decode cX9_draw 42 = .ok (.istore 6, 2) := by decide +kernel
theorem dX9_draw_44 : decode cX9_draw 44 = .ok (.iconst 0, 1) := by decide +kernel
theorem dX9_draw_45 : decode cX9_draw 45 = .ok (.istore 7, 2) := by decide +kernel
theorem dX9_draw_47 : decode cX9_draw 47 = .ok (.iload 7, 2) := by decide +kernel
theorem dX9_draw_49 : decode cX9_draw 49 = .ok (.iload_n 3, 1) := by decide +kernel
theorem dX9_draw_50 : decode cX9_draw 50 = .ok (.if_icmp .ge 99, 3) := by decide +kernel
theorem dX9_draw_53 : decode cX9_draw 53 = .ok (.iload 6, 2) := by decide +kernel
theorem dX9_draw_55 : decode cX9_draw 55 = .ok (.invokestatic 263, 3) := by decide +kernel
theorem dX9_draw_58 : decode cX9_draw 58 = .ok (.istore 6, 2) := by decide +kernel
theorem dX9_draw_60 : decode cX9_draw 60 = .ok (.iload 6, 2) := by decide +kernel
theorem dX9_draw_62 : decode cX9_draw 62 = .ok (.invokestatic 266, 3) := by decide +kernel
theorem dX9_draw_65 : decode cX9_draw 65 = .ok (.istore 8, 2) := by decide +kernel
theorem dX9_draw_67 : decode cX9_draw 67 = .ok (.iload 8, 2) := by decide +kernel
theorem dX9_draw_69 : decode cX9_draw 69 = .ok (.bipush 16, 2) := by decide +kernel
theorem dX9_draw_71 : decode cX9_draw 71 = .ok (.idiv, 1) := by decide +kernel
theorem dX9_draw_72 : decode cX9_draw 72 = .ok (.bipush 64, 2) := by decide +kernel
theorem dX9_draw_74 : decode cX9_draw 74 = .ok (.irem, 1) := by decide +kernel
theorem dX9_draw_75 : decode cX9_draw 75 = .ok (.bipush 8, 2) := by decide +kernel
theorem dX9_draw_77 : decode cX9_draw 77 = .ok (.isub, 1) := by decide +kernel
theorem dX9_draw_78 : decode cX9_draw 78 = .ok (.istore 9, 2) := by decide +kernel
theorem dX9_draw_80 : decode cX9_draw 80 = .ok (.iload_n 2, 1) := by decide +kernel
theorem dX9_draw_81 : decode cX9_draw 81 = .ok (.bipush 9, 2) := by decide +kernel
theorem dX9_draw_83 : decode cX9_draw 83 = .ok (.if_icmp .ne 11, 3) := by decide +kernel
theorem dX9_draw_86 : decode cX9_draw 86 = .ok (.iload 8, 2) := by decide +kernel
theorem dX9_draw_88 : decode cX9_draw 88 = .ok (.bipush 11, 2) := by decide +kernel
theorem dX9_draw_90 : decode cX9_draw 90 = .ok (.irem, 1) := by decide +kernel
theorem dX9_draw_91 : decode cX9_draw 91 = .ok (.goto 4, 3) := by decide +kernel
theorem dX9_draw_94 : decode cX9_draw 94 = .ok (.iload_n 2, 1) := by decide +kernel
theorem dX9_draw_95 : decode cX9_draw 95 = .ok (.istore 10, 2) := by decide +kernel
theorem dX9_draw_97 : decode cX9_draw 97 = .ok (.iload 10, 2) := by decide +kernel
theorem dX9_draw_99 : decode cX9_draw 99 = .ok (.iconst 5, 1) := by decide +kernel
theorem dX9_draw_100 : decode cX9_draw 100 = .ok (.if_icmp .ne 32, 3) := by decide +kernel
theorem dX9_draw_103 : decode cX9_draw 103 = .ok (.iload 8, 2) := by decide +kernel
theorem dX9_draw_105 : decode cX9_draw 105 = .ok (.bipush 16, 2) := by decide +kernel
theorem dX9_draw_107 : decode cX9_draw 107 = .ok (.idiv, 1) := by decide +kernel
theorem dX9_draw_108 : decode cX9_draw 108 = .ok (.iconst 2, 1) := by decide +kernel
theorem dX9_draw_109 : decode cX9_draw 109 = .ok (.irem, 1) := by decide +kernel
theorem dX9_draw_110 : decode cX9_draw 110 = .ok (.iconst 1, 1) := by decide +kernel
theorem dX9_draw_111 : decode cX9_draw 111 = .ok (.if_icmp .ne 21, 3) := by decide +kernel
theorem dX9_draw_114 : decode cX9_draw 114 = .ok (.aload 5, 2) := by decide +kernel
theorem dX9_draw_116 : decode cX9_draw 116 = .ok (.iload 7, 2) := by decide +kernel
theorem dX9_draw_118 : decode cX9_draw 118 = .ok (.iconst 5, 1) := by decide +kernel
theorem dX9_draw_119 : decode cX9_draw 119 = .ok (.iload 9, 2) := by decide +kernel
theorem dX9_draw_121 : decode cX9_draw 121 = .ok (.i2l, 1) := by decide +kernel
theorem dX9_draw_122 : decode cX9_draw 122 = .ok (.ldc2_w 269, 3) := by decide +kernel
theorem dX9_draw_125 : decode cX9_draw 125 = .ok (.lmul, 1) := by decide +kernel
theorem dX9_draw_126 : decode cX9_draw 126 = .ok (.invokevirtual 271, 3) := by decide +kernel
theorem dX9_draw_129 : decode cX9_draw 129 = .ok (.goto 14, 3) := by decide +kernel
theorem dX9_draw_132 : decode cX9_draw 132 = .ok (.aload 5, 2) := by decide +kernel
theorem dX9_draw_134 : decode cX9_draw 134 = .ok (.iload 7, 2) := by decide +kernel
theorem dX9_draw_136 : decode cX9_draw 136 = .ok (.iload 10, 2) := by decide +kernel
theorem dX9_draw_138 : decode cX9_draw 138 = .ok (.iload 9, 2) := by decide +kernel
theorem dX9_draw_140 : decode cX9_draw 140 = .ok (.invokevirtual 110, 3) := by decide +kernel
theorem dX9_draw_143 : decode cX9_draw 143 = .ok (.iinc 7 1, 3) := by decide +kernel
theorem dX9_draw_146 : decode cX9_draw 146 = .ok (.goto (-99), 3) := by decide +kernel
theorem dX9_draw_149 : decode cX9_draw 149 = .ok (.aload_n 0, 1) := by decide +kernel
theorem dX9_draw_150 : decode cX9_draw 150 = .ok (.getfield 10, 3) := by decide +kernel
theorem dX9_draw_153 : decode cX9_draw 153 = .ok (.iload_n 1, 1) := by decide +kernel
theorem dX9_draw_154 : decode cX9_draw 154 = .ok (.aload 5, 2) := by decide +kernel
theorem dX9_draw_156 : decode cX9_draw 156 = .ok (.invokevirtual 54, 3) := by decide +kernel
theorem dX9_draw_159 : decode cX9_draw 159 = .ok (.iconst 1, 1) := by decide +kernel
theorem dX9_draw_160 : decode cX9_draw 160 = .ok (.ireturn, 1) := by decide +kernel
theorem dX9_keep_0 : decode cX9_keep 0 = .ok (.iload_n 1, 1) := by decide +kernel
theorem dX9_keep_1 : decode cX9_keep 1 = .ok (.iconst 0, 1) := by decide +kernel
theorem dX9_keep_2 : decode cX9_keep 2 = .ok (.iconst 1, 1) := by decide +kernel
theorem dX9_keep_3 : decode cX9_keep 3 = .ok (.invokestatic 50, 3) := by decide +kernel
theorem dX9_keep_6 : decode cX9_keep 6 = .ok (.ifCond .ne 5, 3) := by decide +kernel
theorem dX9_keep_9 : decode cX9_keep 9 = .ok (.iconst (-1), 1) := by decide +kernel
theorem dX9_keep_10 : decode cX9_keep 10 = .ok (.ireturn, 1) := by decide +kernel
theorem dX9_keep_11 : decode cX9_keep 11 = .ok (.aload_n 0, 1) := by decide +kernel
theorem dX9_keep_12 : decode cX9_keep 12 = .ok (.getfield 16, 3) := by decide +kernel
theorem dX9_keep_15 : decode cX9_keep 15 = .ok (.iload_n 1, 1) := by decide +kernel
theorem dX9_keep_16 : decode cX9_keep 16 = .ok (.aaload, 1) := by decide +kernel
theorem dX9_keep_17 : decode cX9_keep 17 = .ok (.ifnonnull 7, 3) := by decide +kernel
theorem dX9_keep_20 : decode cX9_keep 20 = .ok (.iconst 0, 1) := by decide +kernel
theorem dX9_keep_21 : decode cX9_keep 21 = .ok (.goto 4, 3) := by decide +kernel
theorem dX9_keep_24 : decode cX9_keep 24 = .ok (.iconst 1, 1) := by decide +kernel
theorem dX9_keep_25 : decode cX9_keep 25 = .ok (.istore_n 2, 1) := by decide +kernel
theorem dX9_keep_26 : decode cX9_keep 26 = .ok (.aload_n 0, 1) := by decide +kernel
theorem dX9_keep_27 : decode cX9_keep 27 = .ok (.getfield 16, 3) := by decide +kernel
theorem dX9_keep_30 : decode cX9_keep 30 = .ok (.iload_n 1, 1) := by decide +kernel
theorem dX9_keep_31 : decode cX9_keep 31 = .ok (.aload_n 0, 1) := by decide +kernel
theorem dX9_keep_32 : decode cX9_keep 32 = .ok (.getfield 10, 3) := by decide +kernel
theorem dX9_keep_35 : decode cX9_keep 35 = .ok (.invokevirtual 275, 3) := by decide +kernel
theorem dX9_keep_38 : decode cX9_keep 38 = .ok (.aastore, 1) := by decide +kernel
theorem dX9_keep_39 : decode cX9_keep 39 = .ok (.iload_n 2, 1) := by decide +kernel
theorem dX9_keep_40 : decode cX9_keep 40 = .ok (.ireturn, 1) := by decide +kernel
theorem dX9_back_0 : decode cX9_back 0 = .ok (.iload_n 1, 1) := by decide +kernel
theorem dX9_back_1 : decode cX9_back 1 = .ok (.iconst 0, 1) := by decide +kernel
theorem dX9_back_2 : decode cX9_back 2 = .ok (.iconst 1, 1) := by decide +kernel
theorem dX9_back_3 : decode cX9_back 3 = .ok (.invokestatic 50, 3) := by decide +kernel
theorem dX9_back_6 : decode cX9_back 6 = .ok (.ifCond .ne 5, 3) := by decide +kernel
theorem dX9_back_9 : decode cX9_back 9 = .ok (.iconst (-1), 1) := by decide +kernel
theorem dX9_back_10 : decode cX9_back 10 = .ok (.ireturn, 1) := by decide +kernel
theorem dX9_back_11 : decode cX9_back 11 = .ok (.aload_n 0, 1) := by decide +kernel
theorem dX9_back_12 : decode cX9_back 12 = .ok (.getfield 16, 3) := by decide +kernel
theorem dX9_back_15 : decode cX9_back 15 = .ok (.iload_n 1, 1) := by decide +kernel
theorem dX9_back_16 : decode cX9_back 16 = .ok (.aaload, 1) := by decide +kernel
theorem dX9_back_17 : decode cX9_back 17 = .ok (.astore_n 2, 1) := by decide +kernel
theorem dX9_back_18 : decode cX9_back 18 = .ok (.aload_n 2, 1) := by decide +kernel
theorem dX9_back_19 : decode cX9_back 19 = .ok (.ifnonnull 6, 3) := by decide +kernel
theorem dX9_back_22 : decode cX9_back 22 = .ok (.bipush (-2), 2) := by decide +kernel
theorem dX9_back_24 : decode cX9_back 24 = .ok (.ireturn, 1) := by decide +kernel
theorem dX9_back_25 : decode cX9_back 25 = .ok (.aload_n 0, 1) := by decide +kernel
theorem dX9_back_26 : decode cX9_back 26 = .ok (.aload_n 2, 1) := by decide +kernel
theorem dX9_back_27 : decode cX9_back 27 = .ok (.invokevirtual 275, 3) := by decide +kernel
theorem dX9_back_30 : decode cX9_back 30 = .ok (.putfield 10, 3) := by decide +kernel
theorem dX9_back_33 : decode cX9_back 33 = .ok (.aload_n 0, 1) := by decide +kernel
theorem dX9_back_34 : decode cX9_back 34 = .ok (.getfield 10, 3) := by decide +kernel
theorem dX9_back_37 : decode cX9_back 37 = .ok (.invokevirtual 278, 3) := by decide +kernel
theorem dX9_back_40 : decode cX9_back 40 = .ok (.ireturn, 1) := by decide +kernel
theorem dX9_count_0 : decode cX9_count 0 = .ok (.iload_n 1, 1) := by decide +kernel
theorem dX9_count_1 : decode cX9_count 1 = .ok (.tableswitch 81 0 5 #[39, 47, 55, 63, 71, 76], 39) := by decide +kernel
theorem dX9_count_40 : decode cX9_count 40 = .ok (.aload_n 0, 1) := by decide +kernel
theorem dX9_count_41 : decode cX9_count 41 = .ok (.getfield 10, 3) := by decide +kernel
theorem dX9_count_44 : decode cX9_count 44 = .ok (.invokevirtual 278, 3) := by decide +kernel
theorem dX9_count_47 : decode cX9_count 47 = .ok (.ireturn, 1) := by decide +kernel
theorem dX9_count_48 : decode cX9_count 48 = .ok (.aload_n 0, 1) := by decide +kernel
theorem dX9_count_49 : decode cX9_count 49 = .ok (.getfield 10, 3) := by decide +kernel
theorem dX9_count_52 : decode cX9_count 52 = .ok (.invokevirtual 281, 3) := by decide +kernel
theorem dX9_count_55 : decode cX9_count 55 = .ok (.ireturn, 1) := by decide +kernel
theorem dX9_count_56 : decode cX9_count 56 = .ok (.aload_n 0, 1) := by decide +kernel
theorem dX9_count_57 : decode cX9_count 57 = .ok (.getfield 10, 3) := by decide +kernel
theorem dX9_count_60 : decode cX9_count 60 = .ok (.invokevirtual 284, 3) := by decide +kernel
theorem dX9_count_63 : decode cX9_count 63 = .ok (.ireturn, 1) := by decide +kernel
theorem dX9_count_64 : decode cX9_count 64 = .ok (.aload_n 0, 1) := by decide +kernel
theorem dX9_count_65 : decode cX9_count 65 = .ok (.getfield 10, 3) := by decide +kernel
theorem dX9_count_68 : decode cX9_count 68 = .ok (.invokevirtual 287, 3) := by decide +kernel
theorem dX9_count_71 : decode cX9_count 71 = .ok (.ireturn, 1) := by decide +kernel
theorem dX9_count_72 : decode cX9_count 72 = .ok (.aload_n 0, 1) := by decide +kernel
theorem dX9_count_73 : decode cX9_count 73 = .ok (.invokevirtual 290, 3) := by decide +kernel
theorem dX9_count_76 : decode cX9_count 76 = .ok (.ireturn, 1) := by decide +kernel
theorem dX9_count_77 : decode cX9_count 77 = .ok (.aload_n 0, 1) := by decide +kernel
theorem dX9_count_78 : decode cX9_count 78 = .ok (.invokevirtual 293, 3) := by decide +kernel
theorem dX9_count_81 : decode cX9_count 81 = .ok (.ireturn, 1) := by decide +kernel
theorem dX9_count_82 : decode cX9_count 82 = .ok (.iconst (-1), 1) := by decide +kernel
theorem dX9_count_83 : decode cX9_count 83 = .ok (.ireturn, 1) := by decide +kernel
theorem dX9_isWithin_0 : decode cX9_isWithin 0 = .ok (.iload_n 1, 1) := by decide +kernel
theorem dX9_isWithin_1 : decode cX9_isWithin 1 = .ok (.iload_n 0, 1) := by decide +kernel
theorem dX9_isWithin_2 : decode cX9_isWithin 2 = .ok (.if_icmp .gt 12, 3) := by decide +kernel
theorem dX9_isWithin_5 : decode cX9_isWithin 5 = .ok (.iload_n 0, 1) := by decide +kernel
theorem dX9_isWithin_6 : decode cX9_isWithin 6 = .ok (.iload_n 2, 1) := by decide +kernel
theorem dX9_isWithin_7 : decode cX9_isWithin 7 = .ok (.if_icmp .gt 7, 3) := by decide +kernel
theorem dX9_isWithin_10 : decode cX9_isWithin 10 = .ok (.iconst 1, 1) := by decide +kernel
theorem dX9_isWithin_11 : decode cX9_isWithin 11 = .ok (.goto 4, 3) := by decide +kernel
theorem dX9_isWithin_14 : decode cX9_isWithin 14 = .ok (.iconst 0, 1) := by decide +kernel
theorem dX9_isWithin_15 : decode cX9_isWithin 15 = .ok (.ireturn, 1) := by decide +kernel
theorem dX9_isRecord_0 : decode cX9_isRecord 0 = .ok (.iload_n 0, 1) := by decide +kernel
theorem dX9_isRecord_1 : decode cX9_isRecord 1 = .ok (.iconst 0, 1) := by decide +kernel
theorem dX9_isRecord_2 : decode cX9_isRecord 2 = .ok (.bipush 7, 2) := by decide +kernel
theorem dX9_isRecord_4 : decode cX9_isRecord 4 = .ok (.invokestatic 50, 3) := by decide +kernel
theorem dX9_isRecord_7 : decode cX9_isRecord 7 = .ok (.ireturn, 1) := by decide +kernel
theorem dX9_isPatch_0 : decode cX9_isPatch 0 = .ok (.iload_n 0, 1) := by decide +kernel
theorem dX9_isPatch_1 : decode cX9_isPatch 1 = .ok (.iconst 0, 1) := by decide +kernel
theorem dX9_isPatch_2 : decode cX9_isPatch 2 = .ok (.iconst 3, 1) := by decide +kernel
theorem dX9_isPatch_3 : decode cX9_isPatch 3 = .ok (.invokestatic 50, 3) := by decide +kernel
theorem dX9_isPatch_6 : decode cX9_isPatch 6 = .ok (.ireturn, 1) := by decide +kernel
theorem dX9_answer_0 : decode cX9_answer 0 = .ok (.bipush (-10), 2) := by decide +kernel
theorem dX9_answer_2 : decode cX9_answer 2 = .ok (.iload_n 0, 1) := by decide +kernel
theorem dX9_answer_3 : decode cX9_answer 3 = .ok (.isub, 1) := by decide +kernel
theorem dX9_answer_4 : decode cX9_answer 4 = .ok (.ireturn, 1) := by decide +kernel
theorem dX9_cellFault_0 : decode cX9_cellFault 0 = .ok (.aload_n 0, 1) := by decide +kernel
theorem dX9_cellFault_1 : decode cX9_cellFault 1 = .ok (.getfield 10, 3) := by decide +kernel
theorem dX9_cellFault_4 : decode cX9_cellFault 4 = .ok (.getfield 69, 3) := by decide +kernel
theorem dX9_cellFault_7 : decode cX9_cellFault 7 = .ok (.iload_n 1, 1) := by decide +kernel
theorem dX9_cellFault_8 : decode cX9_cellFault 8 = .ok (.aaload, 1) := by decide +kernel
theorem dX9_cellFault_9 : decode cX9_cellFault 9 = .ok (.astore_n 3, 1) := by decide +kernel
theorem dX9_cellFault_10 : decode cX9_cellFault 10 = .ok (.aload_n 3, 1) := by decide +kernel
theorem dX9_cellFault_11 : decode cX9_cellFault 11 = .ok (.ifnonnull 12, 3) := by decide +kernel
theorem dX9_cellFault_14 : decode cX9_cellFault 14 = .ok (.aload_n 0, 1) := by decide +kernel
theorem dX9_cellFault_15 : decode cX9_cellFault 15 = .ok (.getfield 10, 3) := by decide +kernel
theorem dX9_cellFault_18 : decode cX9_cellFault 18 = .ok (.iload_n 1, 1) := by decide +kernel
theorem dX9_cellFault_19 : decode cX9_cellFault 19 = .ok (.invokevirtual 85, 3) := by decide +kernel
theorem dX9_cellFault_22 : decode cX9_cellFault 22 = .ok (.ireturn, 1) := by decide +kernel
theorem dX9_cellFault_23 : decode cX9_cellFault 23 = .ok (.iload_n 2, 1) := by decide +kernel
theorem dX9_cellFault_24 : decode cX9_cellFault 24 = .ok (.iconst 0, 1) := by decide +kernel
theorem dX9_cellFault_25 : decode cX9_cellFault 25 = .ok (.aload_n 3, 1) := by decide +kernel
theorem dX9_cellFault_26 : decode cX9_cellFault 26 = .ok (.getfield 88, 3) := by decide +kernel
theorem dX9_cellFault_29 : decode cX9_cellFault 29 = .ok (.iconst 1, 1) := by decide +kernel
theorem dX9_cellFault_30 : decode cX9_cellFault 30 = .ok (.isub, 1) := by decide +kernel
theorem dX9_cellFault_31 : decode cX9_cellFault 31 = .ok (.invokestatic 50, 3) := by decide +kernel
theorem dX9_cellFault_34 : decode cX9_cellFault 34 = .ok (.ifCond .eq 7, 3) := by decide +kernel
theorem dX9_cellFault_37 : decode cX9_cellFault 37 = .ok (.iconst 0, 1) := by decide +kernel
theorem dX9_cellFault_38 : decode cX9_cellFault 38 = .ok (.goto 4, 3) := by decide +kernel
theorem dX9_cellFault_41 : decode cX9_cellFault 41 = .ok (.iconst 3, 1) := by decide +kernel
theorem dX9_cellFault_42 : decode cX9_cellFault 42 = .ok (.ireturn, 1) := by decide +kernel
theorem dX9_readFault_0 : decode cX9_readFault 0 = .ok (.aload_n 0, 1) := by decide +kernel
theorem dX9_readFault_1 : decode cX9_readFault 1 = .ok (.getfield 77, 3) := by decide +kernel
theorem dX9_readFault_4 : decode cX9_readFault 4 = .ok (.bipush 7, 2) := by decide +kernel
theorem dX9_readFault_6 : decode cX9_readFault 6 = .ok (.if_icmp .le 5, 3) := by decide +kernel
theorem dX9_readFault_9 : decode cX9_readFault 9 = .ok (.iconst 4, 1) := by decide +kernel
theorem dX9_readFault_10 : decode cX9_readFault 10 = .ok (.ireturn, 1) := by decide +kernel
theorem dX9_readFault_11 : decode cX9_readFault 11 = .ok (.aload_n 0, 1) := by decide +kernel
theorem dX9_readFault_12 : decode cX9_readFault 12 = .ok (.getfield 77, 3) := by decide +kernel
theorem dX9_readFault_15 : decode cX9_readFault 15 = .ok (.iload_n 1, 1) := by decide +kernel
theorem dX9_readFault_16 : decode cX9_readFault 16 = .ok (.invokestatic 204, 3) := by decide +kernel
theorem dX9_readFault_19 : decode cX9_readFault 19 = .ok (.ifCond .eq 7, 3) := by decide +kernel
theorem dX9_readFault_22 : decode cX9_readFault 22 = .ok (.iconst 0, 1) := by decide +kernel
theorem dX9_readFault_23 : decode cX9_readFault 23 = .ok (.goto 4, 3) := by decide +kernel
theorem dX9_readFault_26 : decode cX9_readFault 26 = .ok (.iconst 5, 1) := by decide +kernel
theorem dX9_readFault_27 : decode cX9_readFault 27 = .ok (.ireturn, 1) := by decide +kernel
theorem dX9_writeNumber_0 : decode cX9_writeNumber 0 = .ok (.aload_n 0, 1) := by decide +kernel
theorem dX9_writeNumber_1 : decode cX9_writeNumber 1 = .ok (.iload_n 1, 1) := by decide +kernel
theorem dX9_writeNumber_2 : decode cX9_writeNumber 2 = .ok (.iload_n 2, 1) := by decide +kernel
theorem dX9_writeNumber_3 : decode cX9_writeNumber 3 = .ok (.invokevirtual 91, 3) := by decide +kernel
theorem dX9_writeNumber_6 : decode cX9_writeNumber 6 = .ok (.istore_n 3, 1) := by decide +kernel
theorem dX9_writeNumber_7 : decode cX9_writeNumber 7 = .ok (.iload_n 3, 1) := by decide +kernel
theorem dX9_writeNumber_8 : decode cX9_writeNumber 8 = .ok (.ifCond .eq 5, 3) := by decide +kernel
theorem dX9_writeNumber_11 : decode cX9_writeNumber 11 = .ok (.iload_n 3, 1) := by decide +kernel
theorem dX9_writeNumber_12 : decode cX9_writeNumber 12 = .ok (.ireturn, 1) := by decide +kernel
theorem dX9_writeNumber_13 : decode cX9_writeNumber 13 = .ok (.aload_n 0, 1) := by decide +kernel
theorem dX9_writeNumber_14 : decode cX9_writeNumber 14 = .ok (.getfield 10, 3) := by decide +kernel
theorem dX9_writeNumber_17 : decode cX9_writeNumber 17 = .ok (.getfield 69, 3) := by decide +kernel
theorem dX9_writeNumber_20 : decode cX9_writeNumber 20 = .ok (.iload_n 1, 1) := by decide +kernel
theorem dX9_writeNumber_21 : decode cX9_writeNumber 21 = .ok (.aaload, 1) := by decide +kernel
theorem dX9_writeNumber_22 : decode cX9_writeNumber 22 = .ok (.getfield 77, 3) := by decide +kernel
theorem dX9_writeNumber_25 : decode cX9_writeNumber 25 = .ok (.bipush 7, 2) := by decide +kernel
theorem dX9_writeNumber_27 : decode cX9_writeNumber 27 = .ok (.if_icmp .le 7, 3) := by decide +kernel
theorem dX9_writeNumber_30 : decode cX9_writeNumber 30 = .ok (.iconst 4, 1) := by decide +kernel
theorem dX9_writeNumber_31 : decode cX9_writeNumber 31 = .ok (.goto 14, 3) := by decide +kernel
theorem dX9_writeNumber_34 : decode cX9_writeNumber 34 = .ok (.aload_n 0, 1) := by decide +kernel
theorem dX9_writeNumber_35 : decode cX9_writeNumber 35 = .ok (.iload_n 1, 1) := by decide +kernel
theorem dX9_writeNumber_36 : decode cX9_writeNumber 36 = .ok (.iload_n 2, 1) := by decide +kernel
theorem dX9_writeNumber_37 : decode cX9_writeNumber 37 = .ok (.aload_n 0, 1) := by decide +kernel
theorem dX9_writeNumber_38 : decode cX9_writeNumber 38 = .ok (.getfield 42, 3) := by decide +kernel
theorem dX9_writeNumber_41 : decode cX9_writeNumber 41 = .ok (.iconst 0, 1) := by decide +kernel
theorem dX9_writeNumber_42 : decode cX9_writeNumber 42 = .ok (.invokevirtual 117, 3) := by decide +kernel
theorem dX9_writeNumber_45 : decode cX9_writeNumber 45 = .ok (.ireturn, 1) := by decide +kernel
theorem dX9_writeCell_0 : decode cX9_writeCell 0 = .ok (.aload_n 0, 1) := by decide +kernel
theorem dX9_writeCell_1 : decode cX9_writeCell 1 = .ok (.iload_n 1, 1) := by decide +kernel
theorem dX9_writeCell_2 : decode cX9_writeCell 2 = .ok (.iload_n 2, 1) := by decide +kernel
theorem dX9_writeCell_3 : decode cX9_writeCell 3 = .ok (.invokevirtual 91, 3) := by decide +kernel
theorem dX9_writeCell_6 : decode cX9_writeCell 6 = .ok (.istore 5, 2) := by decide +kernel
theorem dX9_writeCell_8 : decode cX9_writeCell 8 = .ok (.iload 5, 2) := by decide +kernel
theorem dX9_writeCell_10 : decode cX9_writeCell 10 = .ok (.ifCond .eq 6, 3) := by decide +kernel
theorem dX9_writeCell_13 : decode cX9_writeCell 13 = .ok (.iload 5, 2) := by decide +kernel
theorem dX9_writeCell_15 : decode cX9_writeCell 15 = .ok (.ireturn, 1) := by decide +kernel
theorem dX9_writeCell_16 : decode cX9_writeCell 16 = .ok (.aload_n 0, 1) := by decide +kernel
theorem dX9_writeCell_17 : decode cX9_writeCell 17 = .ok (.getfield 10, 3) := by decide +kernel
theorem dX9_writeCell_20 : decode cX9_writeCell 20 = .ok (.getfield 69, 3) := by decide +kernel
theorem dX9_writeCell_23 : decode cX9_writeCell 23 = .ok (.iload_n 1, 1) := by decide +kernel
theorem dX9_writeCell_24 : decode cX9_writeCell 24 = .ok (.aaload, 1) := by decide +kernel
theorem dX9_writeCell_25 : decode cX9_writeCell 25 = .ok (.astore 6, 2) := by decide +kernel
theorem dX9_writeCell_27 : decode cX9_writeCell 27 = .ok (.aload_n 3, 1) := by decide +kernel
theorem dX9_writeCell_28 : decode cX9_writeCell 28 = .ok (.getfield 107, 3) := by decide +kernel
theorem dX9_writeCell_31 : decode cX9_writeCell 31 = .ok (.iload 4, 2) := by decide +kernel
theorem dX9_writeCell_33 : decode cX9_writeCell 33 = .ok (.iaload, 1) := by decide +kernel
theorem dX9_writeCell_34 : decode cX9_writeCell 34 = .ok (.aload 6, 2) := by decide +kernel
theorem dX9_writeCell_36 : decode cX9_writeCell 36 = .ok (.getfield 77, 3) := by decide +kernel
theorem dX9_writeCell_39 : decode cX9_writeCell 39 = .ok (.invokestatic 204, 3) := by decide +kernel
theorem dX9_writeCell_42 : decode cX9_writeCell 42 = .ok (.ifCond .ne 5, 3) := by decide +kernel
theorem dX9_writeCell_45 : decode cX9_writeCell 45 = .ok (.iconst 5, 1) := by decide +kernel
theorem dX9_writeCell_46 : decode cX9_writeCell 46 = .ok (.ireturn, 1) := by decide +kernel
theorem dX9_writeCell_47 : decode cX9_writeCell 47 = .ok (.aload 6, 2) := by decide +kernel
theorem dX9_writeCell_49 : decode cX9_writeCell 49 = .ok (.iload_n 2, 1) := by decide +kernel
theorem dX9_writeCell_50 : decode cX9_writeCell 50 = .ok (.aload_n 3, 1) := by decide +kernel
theorem dX9_writeCell_51 : decode cX9_writeCell 51 = .ok (.iload 4, 2) := by decide +kernel
theorem dX9_writeCell_53 : decode cX9_writeCell 53 = .ok (.invokevirtual 210, 3) := by decide +kernel
theorem dX9_writeCell_56 : decode cX9_writeCell 56 = .ok (.iconst 0, 1) := by decide +kernel
theorem dX9_writeCell_57 : decode cX9_writeCell 57 = .ok (.ireturn, 1) := by decide +kernel
theorem dX9_nextState_0 : decode cX9_nextState 0 = .ok (.iload_n 0, 1) := by decide +kernel
theorem dX9_nextState_1 : decode cX9_nextState 1 = .ok (.ldc_w 296, 3) := by decide +kernel
theorem dX9_nextState_4 : decode cX9_nextState 4 = .ok (.imul, 1) := by decide +kernel
theorem dX9_nextState_5 : decode cX9_nextState 5 = .ok (.sipush 12345, 3) := by decide +kernel
theorem dX9_nextState_8 : decode cX9_nextState 8 = .ok (.iadd, 1) := by decide +kernel
theorem dX9_nextState_9 : decode cX9_nextState 9 = .ok (.ireturn, 1) := by decide +kernel
theorem dX9_drawOf_0 : decode cX9_drawOf 0 = .ok (.iload_n 0, 1) := by decide +kernel
theorem dX9_drawOf_1 : decode cX9_drawOf 1 = .ok (.bipush 16, 2) := by decide +kernel
theorem dX9_drawOf_3 : decode cX9_drawOf 3 = .ok (.ishr, 1) := by decide +kernel
theorem dX9_drawOf_4 : decode cX9_drawOf 4 = .ok (.sipush 32767, 3) := by decide +kernel
theorem dX9_drawOf_7 : decode cX9_drawOf 7 = .ok (.iand, 1) := by decide +kernel
theorem dX9_drawOf_8 : decode cX9_drawOf 8 = .ok (.ireturn, 1) := by decide +kernel
theorem dX9_timesWritten_0 : decode cX9_timesWritten 0 = .ok (.iload_n 0, 1) := by decide +kernel
theorem dX9_timesWritten_1 : decode cX9_timesWritten 1 = .ok (.bipush 8, 2) := by decide +kernel
theorem dX9_timesWritten_3 : decode cX9_timesWritten 3 = .ok (.irem, 1) := by decide +kernel
theorem dX9_timesWritten_4 : decode cX9_timesWritten 4 = .ok (.ifCond .ne 5, 3) := by decide +kernel
theorem dX9_timesWritten_7 : decode cX9_timesWritten 7 = .ok (.iconst 0, 1) := by decide +kernel
theorem dX9_timesWritten_8 : decode cX9_timesWritten 8 = .ok (.ireturn, 1) := by decide +kernel
theorem dX9_timesWritten_9 : decode cX9_timesWritten 9 = .ok (.iload_n 0, 1) := by decide +kernel
theorem dX9_timesWritten_10 : decode cX9_timesWritten 10 = .ok (.bipush 8, 2) := by decide +kernel
theorem dX9_timesWritten_12 : decode cX9_timesWritten 12 = .ok (.irem, 1) := by decide +kernel
theorem dX9_timesWritten_13 : decode cX9_timesWritten 13 = .ok (.iconst 1, 1) := by decide +kernel
theorem dX9_timesWritten_14 : decode cX9_timesWritten 14 = .ok (.if_icmp .ne 7, 3) := by decide +kernel
theorem dX9_timesWritten_17 : decode cX9_timesWritten 17 = .ok (.iconst 2, 1) := by decide +kernel
theorem dX9_timesWritten_18 : decode cX9_timesWritten 18 = .ok (.goto 4, 3) := by decide +kernel
theorem dX9_timesWritten_21 : decode cX9_timesWritten 21 = .ok (.iconst 1, 1) := by decide +kernel
theorem dX9_timesWritten_22 : decode cX9_timesWritten 22 = .ok (.ireturn, 1) := by decide +kernel
theorem dX9_loggedLength_0 : decode cX9_loggedLength 0 = .ok (.iconst 0, 1) := by decide +kernel
theorem dX9_loggedLength_1 : decode cX9_loggedLength 1 = .ok (.istore_n 2, 1) := by decide +kernel
theorem dX9_loggedLength_2 : decode cX9_loggedLength 2 = .ok (.iload_n 1, 1) := by decide +kernel
theorem dX9_loggedLength_3 : decode cX9_loggedLength 3 = .ok (.istore_n 3, 1) := by decide +kernel
theorem dX9_loggedLength_4 : decode cX9_loggedLength 4 = .ok (.iconst 0, 1) := by decide +kernel
theorem dX9_loggedLength_5 : decode cX9_loggedLength 5 = .ok (.istore 4, 2) := by decide +kernel
theorem dX9_loggedLength_7 : decode cX9_loggedLength 7 = .ok (.iload 4, 2) := by decide +kernel
theorem dX9_loggedLength_9 : decode cX9_loggedLength 9 = .ok (.iload_n 0, 1) := by decide +kernel
theorem dX9_loggedLength_10 : decode cX9_loggedLength 10 = .ok (.if_icmp .ge 24, 3) := by decide +kernel
theorem dX9_loggedLength_13 : decode cX9_loggedLength 13 = .ok (.iload_n 3, 1) := by decide +kernel
theorem dX9_loggedLength_14 : decode cX9_loggedLength 14 = .ok (.invokestatic 263, 3) := by decide +kernel
theorem dX9_loggedLength_17 : decode cX9_loggedLength 17 = .ok (.istore_n 3, 1) := by decide +kernel
theorem dX9_loggedLength_18 : decode cX9_loggedLength 18 = .ok (.iload_n 2, 1) := by decide +kernel
theorem dX9_loggedLength_19 : decode cX9_loggedLength 19 = .ok (.iload_n 3, 1) := by decide +kernel
theorem dX9_loggedLength_20 : decode cX9_loggedLength 20 = .ok (.invokestatic 266, 3) := by decide +kernel
theorem dX9_loggedLength_23 : decode cX9_loggedLength 23 = .ok (.invokestatic 297, 3) := by decide +kernel
theorem dX9_loggedLength_26 : decode cX9_loggedLength 26 = .ok (.iadd, 1) := by decide +kernel
theorem dX9_loggedLength_27 : decode cX9_loggedLength 27 = .ok (.istore_n 2, 1) := by decide +kernel
theorem dX9_loggedLength_28 : decode cX9_loggedLength 28 = .ok (.iinc 4 1, 3) := by decide +kernel
theorem dX9_loggedLength_31 : decode cX9_loggedLength 31 = .ok (.goto (-24), 3) := by decide +kernel
theorem dX9_loggedLength_34 : decode cX9_loggedLength 34 = .ok (.iload_n 2, 1) := by decide +kernel
theorem dX9_loggedLength_35 : decode cX9_loggedLength 35 = .ok (.ireturn, 1) := by decide +kernel
theorem dX9_logged_0 : decode cX9_logged 0 = .ok (.iconst 0, 1) := by decide +kernel
theorem dX9_logged_1 : decode cX9_logged 1 = .ok (.istore 4, 2) := by decide +kernel
theorem dX9_logged_3 : decode cX9_logged 3 = .ok (.iload_n 3, 1) := by decide +kernel
theorem dX9_logged_4 : decode cX9_logged 4 = .ok (.istore 5, 2) := by decide +kernel
theorem dX9_logged_6 : decode cX9_logged 6 = .ok (.iconst 0, 1) := by decide +kernel
theorem dX9_logged_7 : decode cX9_logged 7 = .ok (.istore 6, 2) := by decide +kernel
theorem dX9_logged_9 : decode cX9_logged 9 = .ok (.iload 6, 2) := by decide +kernel
theorem dX9_logged_11 : decode cX9_logged 11 = .ok (.aload_n 1, 1) := by decide +kernel
theorem dX9_logged_12 : decode cX9_logged 12 = .ok (.getfield 88, 3) := by decide +kernel
theorem dX9_logged_15 : decode cX9_logged 15 = .ok (.if_icmp .ge 92, 3) := by decide +kernel
theorem dX9_logged_18 : decode cX9_logged 18 = .ok (.iload 5, 2) := by decide +kernel
theorem dX9_logged_20 : decode cX9_logged 20 = .ok (.invokestatic 263, 3) := by decide +kernel
theorem dX9_logged_23 : decode cX9_logged 23 = .ok (.istore 5, 2) := by decide +kernel
theorem dX9_logged_25 : decode cX9_logged 25 = .ok (.iload 5, 2) := by decide +kernel
theorem dX9_logged_27 : decode cX9_logged 27 = .ok (.invokestatic 266, 3) := by decide +kernel
theorem dX9_logged_30 : decode cX9_logged 30 = .ok (.istore 7, 2) := by decide +kernel
theorem dX9_logged_32 : decode cX9_logged 32 = .ok (.aload_n 0, 1) := by decide +kernel
theorem dX9_logged_33 : decode cX9_logged 33 = .ok (.getfield 42, 3) := by decide +kernel
theorem dX9_logged_36 : decode cX9_logged 36 = .ok (.iconst 0, 1) := by decide +kernel
theorem dX9_logged_37 : decode cX9_logged 37 = .ok (.aload_n 1, 1) := by decide +kernel
theorem dX9_logged_38 : decode cX9_logged 38 = .ok (.iload 6, 2) := by decide +kernel
theorem dX9_logged_40 : decode cX9_logged 40 = .ok (.invokevirtual 210, 3) := by decide +kernel
theorem dX9_logged_43 : decode cX9_logged 43 = .ok (.iload 7, 2) := by decide +kernel
theorem dX9_logged_45 : decode cX9_logged 45 = .ok (.bipush 8, 2) := by decide +kernel
theorem dX9_logged_47 : decode cX9_logged 47 = .ok (.irem, 1) := by decide +kernel
theorem dX9_logged_48 : decode cX9_logged 48 = .ok (.iconst 2, 1) := by decide +kernel
theorem dX9_logged_49 : decode cX9_logged 49 = .ok (.if_icmp .ne 11, 3) := by decide +kernel
theorem dX9_logged_52 : decode cX9_logged 52 = .ok (.aload_n 0, 1) := by decide +kernel
theorem dX9_logged_53 : decode cX9_logged 53 = .ok (.getfield 42, 3) := by decide +kernel
theorem dX9_logged_56 : decode cX9_logged 56 = .ok (.iconst 0, 1) := by decide +kernel
theorem dX9_logged_57 : decode cX9_logged 57 = .ok (.invokevirtual 300, 3) := by decide +kernel
theorem dX9_logged_60 : decode cX9_logged 60 = .ok (.iload 7, 2) := by decide +kernel
theorem dX9_logged_62 : decode cX9_logged 62 = .ok (.invokestatic 297, 3) := by decide +kernel
theorem dX9_logged_65 : decode cX9_logged 65 = .ok (.istore 8, 2) := by decide +kernel
theorem dX9_logged_67 : decode cX9_logged 67 = .ok (.iload 8, 2) := by decide +kernel
theorem dX9_logged_69 : decode cX9_logged 69 = .ok (.ifCond .le 32, 3) := by decide +kernel
theorem dX9_logged_72 : decode cX9_logged 72 = .ok (.iload 4, 2) := by decide +kernel
theorem dX9_logged_74 : decode cX9_logged 74 = .ok (.aload_n 2, 1) := by decide +kernel
theorem dX9_logged_75 : decode cX9_logged 75 = .ok (.getfield 88, 3) := by decide +kernel
theorem dX9_logged_78 : decode cX9_logged 78 = .ok (.if_icmp .ge 23, 3) := by decide +kernel
theorem dX9_logged_81 : decode cX9_logged 81 = .ok (.aload_n 2, 1) := by decide +kernel
theorem dX9_logged_82 : decode cX9_logged 82 = .ok (.iload 4, 2) := by decide +kernel
theorem dX9_logged_84 : decode cX9_logged 84 = .ok (.aload_n 0, 1) := by decide +kernel
theorem dX9_logged_85 : decode cX9_logged 85 = .ok (.getfield 42, 3) := by decide +kernel
theorem dX9_logged_88 : decode cX9_logged 88 = .ok (.iconst 0, 1) := by decide +kernel
theorem dX9_logged_89 : decode cX9_logged 89 = .ok (.invokevirtual 210, 3) := by decide +kernel
theorem dX9_logged_92 : decode cX9_logged 92 = .ok (.iinc 4 1, 3) := by decide +kernel
theorem dX9_logged_95 : decode cX9_logged 95 = .ok (.iinc 8 (-1), 3) := by decide +kernel
theorem dX9_logged_98 : decode cX9_logged 98 = .ok (.goto (-31), 3) := by decide +kernel
theorem dX9_logged_101 : decode cX9_logged 101 = .ok (.iinc 6 1, 3) := by decide +kernel
theorem dX9_logged_104 : decode cX9_logged 104 = .ok (.goto (-95), 3) := by decide +kernel
theorem dX9_logged_107 : decode cX9_logged 107 = .ok (.aload_n 2, 1) := by decide +kernel
theorem dX9_logged_108 : decode cX9_logged 108 = .ok (.areturn, 1) := by decide +kernel
theorem dX9_patchesMade_0 : decode cX9_patchesMade 0 = .ok (.iconst 0, 1) := by decide +kernel
theorem dX9_patchesMade_1 : decode cX9_patchesMade 1 = .ok (.istore_n 1, 1) := by decide +kernel
theorem dX9_patchesMade_2 : decode cX9_patchesMade 2 = .ok (.iconst 0, 1) := by decide +kernel
theorem dX9_patchesMade_3 : decode cX9_patchesMade 3 = .ok (.istore_n 2, 1) := by decide +kernel
theorem dX9_patchesMade_4 : decode cX9_patchesMade 4 = .ok (.iload_n 2, 1) := by decide +kernel
theorem dX9_patchesMade_5 : decode cX9_patchesMade 5 = .ok (.iconst 4, 1) := by decide +kernel
theorem dX9_patchesMade_6 : decode cX9_patchesMade 6 = .ok (.if_icmp .ge 21, 3) := by decide +kernel
theorem dX9_patchesMade_9 : decode cX9_patchesMade 9 = .ok (.aload_n 0, 1) := by decide +kernel
theorem dX9_patchesMade_10 : decode cX9_patchesMade 10 = .ok (.getfield 22, 3) := by decide +kernel
theorem dX9_patchesMade_13 : decode cX9_patchesMade 13 = .ok (.iload_n 2, 1) := by decide +kernel
theorem dX9_patchesMade_14 : decode cX9_patchesMade 14 = .ok (.aaload, 1) := by decide +kernel
theorem dX9_patchesMade_15 : decode cX9_patchesMade 15 = .ok (.ifnull 6, 3) := by decide +kernel
theorem dX9_patchesMade_18 : decode cX9_patchesMade 18 = .ok (.iinc 1 1, 3) := by decide +kernel
theorem dX9_patchesMade_21 : decode cX9_patchesMade 21 = .ok (.iinc 2 1, 3) := by decide +kernel
theorem dX9_patchesMade_24 : decode cX9_patchesMade 24 = .ok (.goto (-20), 3) := by decide +kernel
theorem dX9_patchesMade_27 : decode cX9_patchesMade 27 = .ok (.iload_n 1, 1) := by decide +kernel
theorem dX9_patchesMade_28 : decode cX9_patchesMade 28 = .ok (.ireturn, 1) := by decide +kernel
theorem dX9_imagesKept_0 : decode cX9_imagesKept 0 = .ok (.iconst 0, 1) := by decide +kernel
theorem dX9_imagesKept_1 : decode cX9_imagesKept 1 = .ok (.istore_n 1, 1) := by decide +kernel
theorem dX9_imagesKept_2 : decode cX9_imagesKept 2 = .ok (.iconst 0, 1) := by decide +kernel
theorem dX9_imagesKept_3 : decode cX9_imagesKept 3 = .ok (.istore_n 2, 1) := by decide +kernel
theorem dX9_imagesKept_4 : decode cX9_imagesKept 4 = .ok (.iload_n 2, 1) := by decide +kernel
theorem dX9_imagesKept_5 : decode cX9_imagesKept 5 = .ok (.iconst 2, 1) := by decide +kernel
theorem dX9_imagesKept_6 : decode cX9_imagesKept 6 = .ok (.if_icmp .ge 21, 3) := by decide +kernel
theorem dX9_imagesKept_9 : decode cX9_imagesKept 9 = .ok (.aload_n 0, 1) := by decide +kernel
theorem dX9_imagesKept_10 : decode cX9_imagesKept 10 = .ok (.getfield 16, 3) := by decide +kernel
theorem dX9_imagesKept_13 : decode cX9_imagesKept 13 = .ok (.iload_n 2, 1) := by decide +kernel
theorem dX9_imagesKept_14 : decode cX9_imagesKept 14 = .ok (.aaload, 1) := by decide +kernel
theorem dX9_imagesKept_15 : decode cX9_imagesKept 15 = .ok (.ifnull 6, 3) := by decide +kernel
theorem dX9_imagesKept_18 : decode cX9_imagesKept 18 = .ok (.iinc 1 1, 3) := by decide +kernel
theorem dX9_imagesKept_21 : decode cX9_imagesKept 21 = .ok (.iinc 2 1, 3) := by decide +kernel
theorem dX9_imagesKept_24 : decode cX9_imagesKept 24 = .ok (.goto (-20), 3) := by decide +kernel
theorem dX9_imagesKept_27 : decode cX9_imagesKept 27 = .ok (.iload_n 1, 1) := by decide +kernel
theorem dX9_imagesKept_28 : decode cX9_imagesKept 28 = .ok (.ireturn, 1) := by decide +kernel
theorem dJxe99ae_isNaN_b9ae7_0 : decode cJxe99ae_isNaN_b9ae7 0 = .ok (.dload_n 0, 1) := by decide +kernel
theorem dJxe99ae_isNaN_b9ae7_1 : decode cJxe99ae_isNaN_b9ae7 1 = .ok (.dload_n 0, 1) := by decide +kernel
theorem dJxe99ae_isNaN_b9ae7_2 : decode cJxe99ae_isNaN_b9ae7 2 = .ok (.dcmp .l, 1) := by decide +kernel
theorem dJxe99ae_isNaN_b9ae7_3 : decode cJxe99ae_isNaN_b9ae7 3 = .ok (.ifCond .eq 7, 3) := by decide +kernel
theorem dJxe99ae_isNaN_b9ae7_6 : decode cJxe99ae_isNaN_b9ae7 6 = .ok (.iconst 1, 1) := by decide +kernel
theorem dJxe99ae_isNaN_b9ae7_7 : decode cJxe99ae_isNaN_b9ae7 7 = .ok (.goto 4, 3) := by decide +kernel
theorem dJxe99ae_isNaN_b9ae7_10 : decode cJxe99ae_isNaN_b9ae7 10 = .ok (.iconst 0, 1) := by decide +kernel
theorem dJxe99ae_isNaN_b9ae7_11 : decode cJxe99ae_isNaN_b9ae7 11 = .ok (.ireturn, 1) := by decide +kernel
theorem dJxe99ae_doubleToLongBits_ccdee_0 : decode cJxe99ae_doubleToLongBits_ccdee 0 = .ok (.dload_n 0, 1) := by decide +kernel
theorem dJxe99ae_doubleToLongBits_ccdee_1 : decode cJxe99ae_doubleToLongBits_ccdee 1 = .ok (.invokestatic 122, 3) := by decide +kernel
theorem dJxe99ae_doubleToLongBits_ccdee_4 : decode cJxe99ae_doubleToLongBits_ccdee 4 = .ok (.ifCond .ne 8, 3) := by decide +kernel
theorem dJxe99ae_doubleToLongBits_ccdee_7 : decode cJxe99ae_doubleToLongBits_ccdee 7 = .ok (.dload_n 0, 1) := by decide +kernel
theorem dJxe99ae_doubleToLongBits_ccdee_8 : decode cJxe99ae_doubleToLongBits_ccdee 8 = .ok (.invokestatic 134, 3) := by decide +kernel
theorem dJxe99ae_doubleToLongBits_ccdee_11 : decode cJxe99ae_doubleToLongBits_ccdee 11 = .ok (.lreturn, 1) := by decide +kernel
theorem dJxe99ae_doubleToLongBits_ccdee_12 : decode cJxe99ae_doubleToLongBits_ccdee 12 = .ok (.ldc2_w 137, 3) := by decide +kernel
theorem dJxe99ae_doubleToLongBits_ccdee_15 : decode cJxe99ae_doubleToLongBits_ccdee 15 = .ok (.lreturn, 1) := by decide +kernel
theorem dJxf58ca_isNaN_12338_0 : decode cJxf58ca_isNaN_12338 0 = .ok (.fload_n 0, 1) := by decide +kernel
theorem dJxf58ca_isNaN_12338_1 : decode cJxf58ca_isNaN_12338 1 = .ok (.fload_n 0, 1) := by decide +kernel
theorem dJxf58ca_isNaN_12338_2 : decode cJxf58ca_isNaN_12338 2 = .ok (.fcmp .l, 1) := by decide +kernel
theorem dJxf58ca_isNaN_12338_3 : decode cJxf58ca_isNaN_12338 3 = .ok (.ifCond .eq 7, 3) := by decide +kernel
theorem dJxf58ca_isNaN_12338_6 : decode cJxf58ca_isNaN_12338 6 = .ok (.iconst 1, 1) := by decide +kernel
theorem dJxf58ca_isNaN_12338_7 : decode cJxf58ca_isNaN_12338 7 = .ok (.goto 4, 3) := by decide +kernel
theorem dJxf58ca_isNaN_12338_10 : decode cJxf58ca_isNaN_12338 10 = .ok (.iconst 0, 1) := by decide +kernel
theorem dJxf58ca_isNaN_12338_11 : decode cJxf58ca_isNaN_12338 11 = .ok (.ireturn, 1) := by decide +kernel
theorem dJxf58ca_floatToIntBits_5c35a_0 : decode cJxf58ca_floatToIntBits_5c35a 0 = .ok (.fload_n 0, 1) := by decide +kernel
theorem dJxf58ca_floatToIntBits_5c35a_1 : decode cJxf58ca_floatToIntBits_5c35a 1 = .ok (.invokestatic 59, 3) := by decide +kernel
theorem dJxf58ca_floatToIntBits_5c35a_4 : decode cJxf58ca_floatToIntBits_5c35a 4 = .ok (.ifCond .ne 8, 3) := by decide +kernel
theorem dJxf58ca_floatToIntBits_5c35a_7 : decode cJxf58ca_floatToIntBits_5c35a 7 = .ok (.fload_n 0, 1) := by decide +kernel
theorem dJxf58ca_floatToIntBits_5c35a_8 : decode cJxf58ca_floatToIntBits_5c35a 8 = .ok (.invokestatic 74, 3) := by decide +kernel
theorem dJxf58ca_floatToIntBits_5c35a_11 : decode cJxf58ca_floatToIntBits_5c35a 11 = .ok (.ireturn, 1) := by decide +kernel
theorem dJxf58ca_floatToIntBits_5c35a_12 : decode cJxf58ca_floatToIntBits_5c35a 12 = .ok (.ldc 77, 2) := by decide +kernel
theorem dJxf58ca_floatToIntBits_5c35a_14 : decode cJxf58ca_floatToIntBits_5c35a 14 = .ok (.ireturn, 1) := by decide +kernel
theorem dJ9_floorMod_f86c9_0 : decode cJ9_floorMod_f86c9 0 = .ok (.lload_n 0, 1) := by decide +kernel
theorem dJ9_floorMod_f86c9_1 : decode cJ9_floorMod_f86c9 1 = .ok (.lload_n 2, 1) := by decide +kernel
theorem dJ9_floorMod_f86c9_2 : decode cJ9_floorMod_f86c9 2 = .ok (.lrem, 1) := by decide +kernel
theorem dJ9_floorMod_f86c9_3 : decode cJ9_floorMod_f86c9 3 = .ok (.lstore 4, 2) := by decide +kernel
theorem dJ9_floorMod_f86c9_5 : decode cJ9_floorMod_f86c9 5 = .ok (.lload_n 0, 1) := by decide +kernel
theorem dJ9_floorMod_f86c9_6 : decode cJ9_floorMod_f86c9 6 = .ok (.lload_n 2, 1) := by decide +kernel
theorem dJ9_floorMod_f86c9_7 : decode cJ9_floorMod_f86c9 7 = .ok (.lxor, 1) := by decide +kernel
theorem dJ9_floorMod_f86c9_8 : decode cJ9_floorMod_f86c9 8 = .ok (.lconst 0, 1) := by decide +kernel
theorem dJ9_floorMod_f86c9_9 : decode cJ9_floorMod_f86c9 9 = .ok (.lcmp, 1) := by decide +kernel
theorem dJ9_floorMod_f86c9_10 : decode cJ9_floorMod_f86c9 10 = .ok (.ifCond .ge 15, 3) := by decide +kernel
theorem dJ9_floorMod_f86c9_13 : decode cJ9_floorMod_f86c9 13 = .ok (.lload 4, 2) := by decide +kernel
theorem dJ9_floorMod_f86c9_15 : decode cJ9_floorMod_f86c9 15 = .ok (.lconst 0, 1) := by decide +kernel
theorem dJ9_floorMod_f86c9_16 : decode cJ9_floorMod_f86c9 16 = .ok (.lcmp, 1) := by decide +kernel
theorem dJ9_floorMod_f86c9_17 : decode cJ9_floorMod_f86c9 17 = .ok (.ifCond .eq 8, 3) := by decide +kernel
theorem dJ9_floorMod_f86c9_20 : decode cJ9_floorMod_f86c9 20 = .ok (.lload 4, 2) := by decide +kernel
theorem dJ9_floorMod_f86c9_22 : decode cJ9_floorMod_f86c9 22 = .ok (.lload_n 2, 1) := by decide +kernel
theorem dJ9_floorMod_f86c9_23 : decode cJ9_floorMod_f86c9 23 = .ok (.ladd, 1) := by decide +kernel
theorem dJ9_floorMod_f86c9_24 : decode cJ9_floorMod_f86c9 24 = .ok (.lreturn, 1) := by decide +kernel
theorem dJ9_floorMod_f86c9_25 : decode cJ9_floorMod_f86c9 25 = .ok (.lload 4, 2) := by decide +kernel
theorem dJ9_floorMod_f86c9_27 : decode cJ9_floorMod_f86c9 27 = .ok (.lreturn, 1) := by decide +kernel
theorem dJ9_max_7cf53_0 : decode cJ9_max_7cf53 0 = .ok (.iload_n 0, 1) := by decide +kernel
theorem dJ9_max_7cf53_1 : decode cJ9_max_7cf53 1 = .ok (.iload_n 1, 1) := by decide +kernel
theorem dJ9_max_7cf53_2 : decode cJ9_max_7cf53 2 = .ok (.if_icmp .lt 7, 3) := by decide +kernel
theorem dJ9_max_7cf53_5 : decode cJ9_max_7cf53 5 = .ok (.iload_n 0, 1) := by decide +kernel
theorem dJ9_max_7cf53_6 : decode cJ9_max_7cf53 6 = .ok (.goto 4, 3) := by decide +kernel
theorem dJ9_max_7cf53_9 : decode cJ9_max_7cf53 9 = .ok (.iload_n 1, 1) := by decide +kernel
theorem dJ9_max_7cf53_10 : decode cJ9_max_7cf53 10 = .ok (.ireturn, 1) := by decide +kernel
theorem dJ9_min_7cf53_0 : decode cJ9_min_7cf53 0 = .ok (.iload_n 0, 1) := by decide +kernel
theorem dJ9_min_7cf53_1 : decode cJ9_min_7cf53 1 = .ok (.iload_n 1, 1) := by decide +kernel
theorem dJ9_min_7cf53_2 : decode cJ9_min_7cf53 2 = .ok (.if_icmp .gt 7, 3) := by decide +kernel
theorem dJ9_min_7cf53_5 : decode cJ9_min_7cf53 5 = .ok (.iload_n 0, 1) := by decide +kernel
theorem dJ9_min_7cf53_6 : decode cJ9_min_7cf53 6 = .ok (.goto 4, 3) := by decide +kernel
theorem dJ9_min_7cf53_9 : decode cJ9_min_7cf53 9 = .ok (.iload_n 1, 1) := by decide +kernel
theorem dJ9_min_7cf53_10 : decode cJ9_min_7cf53 10 = .ok (.ireturn, 1) := by decide +kernel

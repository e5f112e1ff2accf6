theorem dX9_init_0 : decode cX9_init 0 = .ok (.aload_n 0, 1) := by decide +kernel
theorem dX9_init_1 : decode cX9_init 1 = .ok (.invokespecial 1, 3) := by decide +kernel
theorem dX9_init_4 : decode cX9_init 4 = .ok (.aload_n 0, 1) := by decide +kernel
theorem dX9_init_5 : decode cX9_init 5 = .ok (.sipush 270, 3) := by decide +kernel
theorem dX9_init_8 : decode cX9_init 8 = .ok (.newarray .int, 2) := by decide +kernel
theorem dX9_init_10 : decode cX9_init 10 = .ok (.putfield 7, 3) := by decide +kernel
theorem dX9_init_13 : decode cX9_init 13 = .ok (.aload_n 0, 1) := by decide +kernel
theorem dX9_init_14 : decode cX9_init 14 = .ok (.sipush 1080, 3) := by decide +kernel
theorem dX9_init_17 : decode cX9_init 17 = .ok (.newarray .int, 2) := by decide +kernel
theorem dX9_init_19 : decode cX9_init 19 = .ok (.putfield 13, 3) := by decide +kernel
theorem dX9_init_22 : decode cX9_init 22 = .ok (.aload_n 0, 1) := by decide +kernel
theorem dX9_init_23 : decode cX9_init 23 = .ok (.iconst 4, 1) := by decide +kernel
theorem dX9_init_24 : decode cX9_init 24 = .ok (.newarray .long, 2) := by decide +kernel
theorem dX9_init_26 : decode cX9_init 26 = .ok (.putfield 16, 3) := by decide +kernel
theorem dX9_init_29 : decode cX9_init 29 = .ok (.aload_n 0, 1) := by decide +kernel
theorem dX9_init_30 : decode cX9_init 30 = .ok (.sipush 270, 3) := by decide +kernel
theorem dX9_init_33 : decode cX9_init 33 = .ok (.newarray .int, 2) := by decide +kernel
theorem dX9_init_35 : decode cX9_init 35 = .ok (.putfield 20, 3) := by decide +kernel
theorem dX9_init_38 : decode cX9_init 38 = .ok (.aload_n 0, 1) := by decide +kernel
theorem dX9_init_39 : decode cX9_init 39 = .ok (.bipush 80, 2) := by decide +kernel
theorem dX9_init_41 : decode cX9_init 41 = .ok (.newarray .char, 2) := by decide +kernel
theorem dX9_init_43 : decode cX9_init 43 = .ok (.putfield 23, 3) := by decide +kernel
theorem dX9_init_46 : decode cX9_init 46 = .ok (.aload_n 0, 1) := by decide +kernel
theorem dX9_init_47 : decode cX9_init 47 = .ok (.iconst 4, 1) := by decide +kernel
theorem dX9_init_48 : decode cX9_init 48 = .ok (.newarray .int, 2) := by decide +kernel
theorem dX9_init_50 : decode cX9_init 50 = .ok (.putfield 27, 3) := by decide +kernel
theorem dX9_init_53 : decode cX9_init 53 = .ok (.aload_n 0, 1) := by decide +kernel
theorem dX9_init_54 : decode cX9_init 54 = .ok (.getfield 7, 3) := by decide +kernel
theorem dX9_init_57 : decode cX9_init 57 = .ok (.iconst 1, 1) := by decide +kernel
theorem dX9_init_58 : decode cX9_init 58 = .ok (.iconst 2, 1) := by decide +kernel
theorem dX9_init_59 : decode cX9_init 59 = .ok (.iastore, 1) := by decide +kernel
theorem dX9_init_60 : decode cX9_init 60 = .ok (.aload_n 0, 1) := by decide +kernel
theorem dX9_init_61 : decode cX9_init 61 = .ok (.getfield 7, 3) := by decide +kernel
theorem dX9_init_64 : decode cX9_init 64 = .ok (.iconst 2, 1) := by decide +kernel
theorem dX9_init_65 : decode cX9_init 65 = .ok (.iconst 3, 1) := by decide +kernel
theorem dX9_init_66 : decode cX9_init 66 = .ok (.iastore, 1) := by decide +kernel
theorem dX9_init_67 : decode cX9_init 67 = .ok (.aload_n 0, 1) := by decide +kernel
theorem dX9_init_68 : decode cX9_init 68 = .ok (.getfield 7, 3) := by decide +kernel
theorem dX9_init_71 : decode cX9_init 71 = .ok (.iconst 3, 1) := by decide +kernel
theorem dX9_init_72 : decode cX9_init 72 = .ok (.sipush 5000, 3) := by decide +kernel
theorem dX9_init_75 : decode cX9_init 75 = .ok (.iastore, 1) := by decide +kernel
theorem dX9_init_76 : decode cX9_init 76 = .ok (.aload_n 0, 1) := by decide +kernel
theorem dX9_init_77 : decode cX9_init 77 = .ok (.getfield 7, 3) := by decide +kernel
theorem dX9_init_80 : decode cX9_init 80 = .ok (.iconst 4, 1) := by decide +kernel
theorem dX9_init_81 : decode cX9_init 81 = .ok (.bipush 20, 2) := by decide +kernel
theorem dX9_init_83 : decode cX9_init 83 = .ok (.iastore, 1) := by decide +kernel
theorem dX9_init_84 : decode cX9_init 84 = .ok (.aload_n 0, 1) := by decide +kernel
theorem dX9_init_85 : decode cX9_init 85 = .ok (.getfield 7, 3) := by decide +kernel
theorem dX9_init_88 : decode cX9_init 88 = .ok (.iconst 5, 1) := by decide +kernel
theorem dX9_init_89 : decode cX9_init 89 = .ok (.ldc 30, 2) := by decide +kernel
theorem dX9_init_91 : decode cX9_init 91 = .ok (.iastore, 1) := by decide +kernel
theorem dX9_init_92 : decode cX9_init 92 = .ok (.aload_n 0, 1) := by decide +kernel
theorem dX9_init_93 : decode cX9_init 93 = .ok (.getfield 7, 3) := by decide +kernel
theorem dX9_init_96 : decode cX9_init 96 = .ok (.bipush 6, 2) := by decide +kernel
theorem dX9_init_98 : decode cX9_init 98 = .ok (.bipush 100, 2) := by decide +kernel
theorem dX9_init_100 : decode cX9_init 100 = .ok (.iastore, 1) := by decide +kernel
theorem dX9_init_101 : decode cX9_init 101 = .ok (.iconst 0, 1) := by decide +kernel
theorem dX9_init_102 : decode cX9_init 102 = .ok (.istore_n 1, 1) := by decide +kernel
theorem dX9_init_103 : decode cX9_init 103 = .ok (.iload_n 1, 1) := by decide +kernel
theorem dX9_init_104 : decode cX9_init 104 = .ok (.iconst 4, 1) := by decide +kernel
theorem dX9_init_105 : decode cX9_init 105 = .ok (.if_icmp .ge 24, 3) := by decide +kernel
theorem dX9_init_108 : decode cX9_init 108 = .ok (.aload_n 0, 1) := by decide +kernel
theorem dX9_init_109 : decode cX9_init 109 = .ok (.getfield 7, 3) := by decide +kernel
theorem dX9_init_112 : decode cX9_init 112 = .ok (.bipush 8, 2) := by decide +kernel
theorem dX9_init_114 : decode cX9_init 114 = .ok (.bipush 8, 2) := by decide +kernel
theorem dX9_init_116 : decode cX9_init 116 = .ok (.iload_n 1, 1) := by decide +kernel
theorem dX9_init_117 : decode cX9_init 117 = .ok (.imul, 1) := by decide +kernel
theorem dX9_init_118 : decode cX9_init 118 = .ok (.iadd, 1) := by decide +kernel
theorem dX9_init_119 : decode cX9_init 119 = .ok (.iconst 2, 1) := by decide +kernel
theorem dX9_init_120 : decode cX9_init 120 = .ok (.iadd, 1) := by decide +kernel
theorem dX9_init_121 : decode cX9_init 121 = .ok (.iconst (-1), 1) := by decide +kernel
theorem dX9_init_122 : decode cX9_init 122 = .ok (.iastore, 1) := by decide +kernel
theorem dX9_init_123 : decode cX9_init 123 = .ok (.iinc 1 1, 3) := by decide +kernel
theorem dX9_init_126 : decode cX9_init 126 = .ok (.goto (-23), 3) := by decide +kernel
theorem dX9_init_129 : decode cX9_init 129 = .ok (.iconst 0, 1) := by decide +kernel
theorem dX9_init_130 : decode cX9_init 130 = .ok (.istore_n 1, 1) := by decide +kernel
theorem dX9_init_131 : decode cX9_init 131 = .ok (.iload_n 1, 1) := by decide +kernel
theorem dX9_init_132 : decode cX9_init 132 = .ok (.iconst 2, 1) := by decide +kernel
theorem dX9_init_133 : decode cX9_init 133 = .ok (.if_icmp .ge 96, 3) := by decide +kernel
theorem dX9_init_136 : decode cX9_init 136 = .ok (.bipush 40, 2) := by decide +kernel
theorem dX9_init_138 : decode cX9_init 138 = .ok (.bipush 30, 2) := by decide +kernel
theorem dX9_init_140 : decode cX9_init 140 = .ok (.iload_n 1, 1) := by decide +kernel
theorem dX9_init_141 : decode cX9_init 141 = .ok (.imul, 1) := by decide +kernel
theorem dX9_init_142 : decode cX9_init 142 = .ok (.iadd, 1) := by decide +kernel
theorem dX9_init_143 : decode cX9_init 143 = .ok (.istore_n 2, 1) := by decide +kernel
theorem dX9_init_144 : decode cX9_init 144 = .ok (.aload_n 0, 1) := by decide +kernel
theorem dX9_init_145 : decode cX9_init 145 = .ok (.getfield 7, 3) := by decide +kernel
theorem dX9_init_148 : decode cX9_init 148 = .ok (.iload_n 2, 1) := by decide +kernel
theorem dX9_init_149 : decode cX9_init 149 = .ok (.iconst 0, 1) := by decide +kernel
theorem dX9_init_150 : decode cX9_init 150 = .ok (.iadd, 1) := by decide +kernel
theorem dX9_init_151 : decode cX9_init 151 = .ok (.bipush 50, 2) := by decide +kernel
theorem dX9_init_153 : decode cX9_init 153 = .ok (.iastore, 1) := by decide +kernel
theorem dX9_init_154 : decode cX9_init 154 = .ok (.aload_n 0, 1) := by decide +kernel
theorem dX9_init_155 : decode cX9_init 155 = .ok (.getfield 7, 3) := by decide +kernel
theorem dX9_init_158 : decode cX9_init 158 = .ok (.iload_n 2, 1) := by decide +kernel
theorem dX9_init_159 : decode cX9_init 159 = .ok (.iconst 1, 1) := by decide +kernel
theorem dX9_init_160 : decode cX9_init 160 = .ok (.iadd, 1) := by decide +kernel
theorem dX9_init_161 : decode cX9_init 161 = .ok (.bipush 10, 2) := by decide +kernel
theorem dX9_init_163 : decode cX9_init 163 = .ok (.iastore, 1) := by decide +kernel
theorem dX9_init_164 : decode cX9_init 164 = .ok (.aload_n 0, 1) := by decide +kernel
theorem dX9_init_165 : decode cX9_init 165 = .ok (.getfield 7, 3) := by decide +kernel
theorem dX9_init_168 : decode cX9_init 168 = .ok (.iload_n 2, 1) := by decide +kernel
theorem dX9_init_169 : decode cX9_init 169 = .ok (.iconst 2, 1) := by decide +kernel
theorem dX9_init_170 : decode cX9_init 170 = .ok (.iadd, 1) := by decide +kernel
theorem dX9_init_171 : decode cX9_init 171 = .ok (.sipush 1000, 3) := by decide +kernel
theorem dX9_init_174 : decode cX9_init 174 = .ok (.iastore, 1) := by decide +kernel
theorem dX9_init_175 : decode cX9_init 175 = .ok (.aload_n 0, 1) := by decide +kernel
theorem dX9_init_176 : decode cX9_init 176 = .ok (.getfield 7, 3) := by decide +kernel
theorem dX9_init_179 : decode cX9_init 179 = .ok (.iload_n 2, 1) := by decide +kernel
theorem dX9_init_180 : decode cX9_init 180 = .ok (.iconst 3, 1) := by decide +kernel
theorem dX9_init_181 : decode cX9_init 181 = .ok (.iadd, 1) := by decide +kernel
theorem dX9_init_182 : decode cX9_init 182 = .ok (.bipush 100, 2) := by decide +kernel
theorem dX9_init_184 : decode cX9_init 184 = .ok (.iastore, 1) := by decide +kernel
theorem dX9_init_185 : decode cX9_init 185 = .ok (.aload_n 0, 1) := by decide +kernel
theorem dX9_init_186 : decode cX9_init 186 = .ok (.getfield 7, 3) := by decide +kernel
theorem dX9_init_189 : decode cX9_init 189 = .ok (.iload_n 2, 1) := by decide +kernel
theorem dX9_init_190 : decode cX9_init 190 = .ok (.bipush 9, 2) := by decide +kernel
theorem dX9_init_192 : decode cX9_init 192 = .ok (.iadd, 1) := by decide +kernel
theorem dX9_init_193 : decode cX9_init 193 = .ok (.bipush 9, 2) := by decide +kernel
theorem dX9_init_195 : decode cX9_init 195 = .ok (.iastore, 1) := by decide +kernel
theorem dX9_init_196 : decode cX9_init 196 = .ok (.iconst 0, 1) := by decide +kernel
theorem dX9_init_197 : decode cX9_init 197 = .ok (.istore_n 3, 1) := by decide +kernel
theorem dX9_init_198 : decode cX9_init 198 = .ok (.iload_n 3, 1) := by decide +kernel
theorem dX9_init_199 : decode cX9_init 199 = .ok (.iconst 3, 1) := by decide +kernel
theorem dX9_init_200 : decode cX9_init 200 = .ok (.if_icmp .ge 23, 3) := by decide +kernel
theorem dX9_init_203 : decode cX9_init 203 = .ok (.aload_n 0, 1) := by decide +kernel
theorem dX9_init_204 : decode cX9_init 204 = .ok (.getfield 7, 3) := by decide +kernel
theorem dX9_init_207 : decode cX9_init 207 = .ok (.iload_n 2, 1) := by decide +kernel
theorem dX9_init_208 : decode cX9_init 208 = .ok (.bipush 12, 2) := by decide +kernel
theorem dX9_init_210 : decode cX9_init 210 = .ok (.iadd, 1) := by decide +kernel
theorem dX9_init_211 : decode cX9_init 211 = .ok (.iconst 3, 1) := by decide +kernel
theorem dX9_init_212 : decode cX9_init 212 = .ok (.iload_n 3, 1) := by decide +kernel
theorem dX9_init_213 : decode cX9_init 213 = .ok (.imul, 1) := by decide +kernel
theorem dX9_init_214 : decode cX9_init 214 = .ok (.iadd, 1) := by decide +kernel
theorem dX9_init_215 : decode cX9_init 215 = .ok (.iconst (-1), 1) := by decide +kernel
theorem dX9_init_216 : decode cX9_init 216 = .ok (.iastore, 1) := by decide +kernel
theorem dX9_init_217 : decode cX9_init 217 = .ok (.iinc 3 1, 3) := by decide +kernel
theorem dX9_init_220 : decode cX9_init 220 = .ok (.goto (-22), 3) := by decide +kernel
theorem dX9_init_223 : decode cX9_init 223 = .ok (.iinc 1 1, 3) := by decide +kernel
theorem dX9_init_226 : decode cX9_init 226 = .ok (.goto (-95), 3) := by decide +kernel
theorem dX9_init_229 : decode cX9_init 229 = .ok (.return_, 1) := by decide +kernel
theorem dX9_in_0 : decode cX9_in 0 = .ok (.lload_n 0, 1) := by decide +kernel
theorem dX9_in_1 : decode cX9_in 1 = .ok (.lload_n 2, 1) := by decide +kernel
theorem dX9_in_2 : decode cX9_in 2 = .ok (.lcmp, 1) := by decide +kernel
theorem dX9_in_3 : decode cX9_in 3 = .ok (.ifCond .lt 14, 3) := by decide +kernel
theorem dX9_in_6 : decode cX9_in 6 = .ok (.lload_n 0, 1) := by decide +kernel
theorem dX9_in_7 : decode cX9_in 7 = .ok (.lload 4, 2) := by decide +kernel
theorem dX9_in_9 : decode cX9_in 9 = .ok (.lcmp, 1) := by decide +kernel
theorem dX9_in_10 : decode cX9_in 10 = .ok (.ifCond .gt 7, 3) := by decide +kernel
theorem dX9_in_13 : decode cX9_in 13 = .ok (.iconst 1, 1) := by decide +kernel
theorem dX9_in_14 : decode cX9_in 14 = .ok (.goto 4, 3) := by decide +kernel
theorem dX9_in_17 : decode cX9_in 17 = .ok (.iconst 0, 1) := by decide +kernel
theorem dX9_in_18 : decode cX9_in 18 = .ok (.ireturn, 1) := by decide +kernel
set_option maxRecDepth 20000 in
theorem ggX9_isLeg_X9_in : GoodIn wsX9_isLeg wsX9_in := goodIn_r _ [5] (by decide +kernel) (by decide +kernel)
set_option maxRecDepth 20000 in
theorem gX9_isLeg_X9_in : GoodIn wsX9_isLeg (va_wsS RX9 33 yX9_in wsX9_in) := goodIn_app (goodIn_of _ (by decide +kernel)) ggX9_isLeg_X9_in
theorem dX9_isLeg_0 : decode cX9_isLeg 0 = .ok (.iload_n 0, 1) := by decide +kernel
theorem dX9_isLeg_1 : decode cX9_isLeg 1 = .ok (.i2l, 1) := by decide +kernel
theorem dX9_isLeg_2 : decode cX9_isLeg 2 = .ok (.lconst 0, 1) := by decide +kernel
theorem dX9_isLeg_3 : decode cX9_isLeg 3 = .ok (.ldc2_w 31, 3) := by decide +kernel
theorem dX9_isLeg_6 : decode cX9_isLeg 6 = .ok (.invokestatic 33, 3) := by decide +kernel
theorem dX9_isLeg_9 : decode cX9_isLeg 9 = .ok (.ireturn, 1) := by decide +kernel
set_option maxRecDepth 20000 in
theorem ggX9_isLoad_X9_in : GoodIn wsX9_isLoad wsX9_in := goodIn_r _ [4] (by decide +kernel) (by decide +kernel)
set_option maxRecDepth 20000 in
theorem gX9_isLoad_X9_in : GoodIn wsX9_isLoad (va_wsS RX9 33 yX9_in wsX9_in) := goodIn_app (goodIn_of _ (by decide +kernel)) ggX9_isLoad_X9_in
theorem dX9_isLoad_0 : decode cX9_isLoad 0 = .ok (.iload_n 0, 1) := by decide +kernel
theorem dX9_isLoad_1 : decode cX9_isLoad 1 = .ok (.i2l, 1) := by decide +kernel
theorem dX9_isLoad_2 : decode cX9_isLoad 2 = .ok (.lconst 0, 1) := by decide +kernel
theorem dX9_isLoad_3 : decode cX9_isLoad 3 = .ok (.lconst 1, 1) := by decide +kernel
theorem dX9_isLoad_4 : decode cX9_isLoad 4 = .ok (.invokestatic 33, 3) := by decide +kernel
theorem dX9_isLoad_7 : decode cX9_isLoad 7 = .ok (.ireturn, 1) := by decide +kernel
theorem dX9_legAt_0 : decode cX9_legAt 0 = .ok (.bipush 8, 2) := by decide +kernel
theorem dX9_legAt_2 : decode cX9_legAt 2 = .ok (.bipush 8, 2) := by decide +kernel
theorem dX9_legAt_4 : decode cX9_legAt 4 = .ok (.iload_n 0, 1) := by decide +kernel
theorem dX9_legAt_5 : decode cX9_legAt 5 = .ok (.imul, 1) := by decide +kernel
theorem dX9_legAt_6 : decode cX9_legAt 6 = .ok (.iadd, 1) := by decide +kernel
theorem dX9_legAt_7 : decode cX9_legAt 7 = .ok (.ireturn, 1) := by decide +kernel
theorem dX9_loadAt_0 : decode cX9_loadAt 0 = .ok (.bipush 40, 2) := by decide +kernel
theorem dX9_loadAt_2 : decode cX9_loadAt 2 = .ok (.bipush 30, 2) := by decide +kernel
theorem dX9_loadAt_4 : decode cX9_loadAt 4 = .ok (.iload_n 0, 1) := by decide +kernel
theorem dX9_loadAt_5 : decode cX9_loadAt 5 = .ok (.imul, 1) := by decide +kernel
theorem dX9_loadAt_6 : decode cX9_loadAt 6 = .ok (.iadd, 1) := by decide +kernel
theorem dX9_loadAt_7 : decode cX9_loadAt 7 = .ok (.ireturn, 1) := by decide +kernel
theorem dX9_records_0 : decode cX9_records 0 = .ok (.aload_n 0, 1) := by decide +kernel
theorem dX9_records_1 : decode cX9_records 1 = .ok (.getfield 37, 3) := by decide +kernel
theorem dX9_records_4 : decode cX9_records 4 = .ok (.iconst 4, 1) := by decide +kernel
theorem dX9_records_5 : decode cX9_records 5 = .ok (.if_icmp .ne 71, 3) := by decide +kernel
theorem dX9_records_8 : decode cX9_records 8 = .ok (.iconst 0, 1) := by decide +kernel
theorem dX9_records_9 : decode cX9_records 9 = .ok (.istore_n 1, 1) := by decide +kernel
theorem dX9_records_10 : decode cX9_records 10 = .ok (.iload_n 1, 1) := by decide +kernel
theorem dX9_records_11 : decode cX9_records 11 = .ok (.sipush 810, 3) := by decide +kernel
theorem dX9_records_14 : decode cX9_records 14 = .ok (.if_icmp .ge 25, 3) := by decide +kernel
theorem dX9_records_17 : decode cX9_records 17 = .ok (.aload_n 0, 1) := by decide +kernel
theorem dX9_records_18 : decode cX9_records 18 = .ok (.getfield 13, 3) := by decide +kernel
theorem dX9_records_21 : decode cX9_records 21 = .ok (.iload_n 1, 1) := by decide +kernel
theorem dX9_records_22 : decode cX9_records 22 = .ok (.aload_n 0, 1) := by decide +kernel
theorem dX9_records_23 : decode cX9_records 23 = .ok (.getfield 13, 3) := by decide +kernel
theorem dX9_records_26 : decode cX9_records 26 = .ok (.iload_n 1, 1) := by decide +kernel
theorem dX9_records_27 : decode cX9_records 27 = .ok (.sipush 270, 3) := by decide +kernel
theorem dX9_records_30 : decode cX9_records 30 = .ok (.iadd, 1) := by decide +kernel
theorem dX9_records_31 : decode cX9_records 31 = .ok (.iaload, 1) := by decide +kernel
theorem dX9_records_32 : decode cX9_records 32 = .ok (.iastore, 1) := by decide +kernel
theorem dX9_records_33 : decode cX9_records 33 = .ok (.iinc 1 1, 3) := by decide +kernel
theorem dX9_records_36 : decode cX9_records 36 = .ok (.goto (-26), 3) := by decide +kernel
theorem dX9_records_39 : decode cX9_records 39 = .ok (.iconst 0, 1) := by decide +kernel
theorem dX9_records_40 : decode cX9_records 40 = .ok (.istore_n 1, 1) := by decide +kernel
theorem dX9_records_41 : decode cX9_records 41 = .ok (.iload_n 1, 1) := by decide +kernel
theorem dX9_records_42 : decode cX9_records 42 = .ok (.iconst 3, 1) := by decide +kernel
theorem dX9_records_43 : decode cX9_records 43 = .ok (.if_icmp .ge 23, 3) := by decide +kernel
theorem dX9_records_46 : decode cX9_records 46 = .ok (.aload_n 0, 1) := by decide +kernel
theorem dX9_records_47 : decode cX9_records 47 = .ok (.getfield 16, 3) := by decide +kernel
theorem dX9_records_50 : decode cX9_records 50 = .ok (.iload_n 1, 1) := by decide +kernel
theorem dX9_records_51 : decode cX9_records 51 = .ok (.aload_n 0, 1) := by decide +kernel
theorem dX9_records_52 : decode cX9_records 52 = .ok (.getfield 16, 3) := by decide +kernel
theorem dX9_records_55 : decode cX9_records 55 = .ok (.iload_n 1, 1) := by decide +kernel
theorem dX9_records_56 : decode cX9_records 56 = .ok (.iconst 1, 1) := by decide +kernel
theorem dX9_records_57 : decode cX9_records 57 = .ok (.iadd, 1) := by decide +kernel
theorem dX9_records_58 : decode cX9_records 58 = .ok (.laload, 1) := by decide +kernel
theorem dX9_records_59 : decode cX9_records 59 = .ok (.lastore, 1) := by decide +kernel
theorem dX9_records_60 : decode cX9_records 60 = .ok (.iinc 1 1, 3) := by decide +kernel
theorem dX9_records_63 : decode cX9_records 63 = .ok (.goto (-22), 3) := by decide +kernel
theorem dX9_records_66 : decode cX9_records 66 = .ok (.aload_n 0, 1) := by decide +kernel
theorem dX9_records_67 : decode cX9_records 67 = .ok (.dup, 1) := by decide +kernel
theorem dX9_records_68 : decode cX9_records 68 = .ok (.getfield 37, 3) := by decide +kernel
theorem dX9_records_71 : decode cX9_records 71 = .ok (.iconst 1, 1) := by decide +kernel
theorem dX9_records_72 : decode cX9_records 72 = .ok (.isub, 1) := by decide +kernel
theorem dX9_records_73 : decode cX9_records 73 = .ok (.putfield 37, 3) := by decide +kernel
theorem dX9_records_76 : decode cX9_records 76 = .ok (.iconst 0, 1) := by decide +kernel
theorem dX9_records_77 : decode cX9_records 77 = .ok (.istore_n 1, 1) := by decide +kernel
theorem dX9_records_78 : decode cX9_records 78 = .ok (.iload_n 1, 1) := by decide +kernel
theorem dX9_records_79 : decode cX9_records 79 = .ok (.sipush 270, 3) := by decide +kernel
theorem dX9_records_82 : decode cX9_records 82 = .ok (.if_icmp .ge 30, 3) := by decide +kernel
theorem dX9_records_85 : decode cX9_records 85 = .ok (.aload_n 0, 1) := by decide +kernel
theorem dX9_records_86 : decode cX9_records 86 = .ok (.getfield 13, 3) := by decide +kernel
theorem dX9_records_89 : decode cX9_records 89 = .ok (.sipush 270, 3) := by decide +kernel
theorem dX9_records_92 : decode cX9_records 92 = .ok (.aload_n 0, 1) := by decide +kernel
theorem dX9_records_93 : decode cX9_records 93 = .ok (.getfield 37, 3) := by decide +kernel
theorem dX9_records_96 : decode cX9_records 96 = .ok (.imul, 1) := by decide +kernel
theorem dX9_records_97 : decode cX9_records 97 = .ok (.iload_n 1, 1) := by decide +kernel
theorem dX9_records_98 : decode cX9_records 98 = .ok (.iadd, 1) := by decide +kernel
theorem dX9_records_99 : decode cX9_records 99 = .ok (.aload_n 0, 1) := by decide +kernel
theorem dX9_records_100 : decode cX9_records 100 = .ok (.getfield 7, 3) := by decide +kernel
theorem dX9_records_103 : decode cX9_records 103 = .ok (.iload_n 1, 1) := by decide +kernel
theorem dX9_records_104 : decode cX9_records 104 = .ok (.iaload, 1) := by decide +kernel
theorem dX9_records_105 : decode cX9_records 105 = .ok (.iastore, 1) := by decide +kernel
theorem dX9_records_106 : decode cX9_records 106 = .ok (.iinc 1 1, 3) := by decide +kernel
theorem dX9_records_109 : decode cX9_records 109 = .ok (.goto (-31), 3) := by decide +kernel
theorem dX9_records_112 : decode cX9_records 112 = .ok (.aload_n 0, 1) := by decide +kernel
theorem dX9_records_113 : decode cX9_records 113 = .ok (.getfield 16, 3) := by decide +kernel
theorem dX9_records_116 : decode cX9_records 116 = .ok (.aload_n 0, 1) := by decide +kernel
theorem dX9_records_117 : decode cX9_records 117 = .ok (.getfield 37, 3) := by decide +kernel
theorem dX9_records_120 : decode cX9_records 120 = .ok (.aload_n 0, 1) := by decide +kernel
theorem dX9_records_121 : decode cX9_records 121 = .ok (.getfield 41, 3) := by decide +kernel
theorem dX9_records_124 : decode cX9_records 124 = .ok (.lastore, 1) := by decide +kernel
theorem dX9_records_125 : decode cX9_records 125 = .ok (.aload_n 0, 1) := by decide +kernel
theorem dX9_records_126 : decode cX9_records 126 = .ok (.dup, 1) := by decide +kernel
theorem dX9_records_127 : decode cX9_records 127 = .ok (.getfield 37, 3) := by decide +kernel
theorem dX9_records_130 : decode cX9_records 130 = .ok (.iconst 1, 1) := by decide +kernel
theorem dX9_records_131 : decode cX9_records 131 = .ok (.iadd, 1) := by decide +kernel
theorem dX9_records_132 : decode cX9_records 132 = .ok (.putfield 37, 3) := by decide +kernel
theorem dX9_records_135 : decode cX9_records 135 = .ok (.return_, 1) := by decide +kernel
set_option maxRecDepth 20000 in
theorem ggX9_isLatched_X9_loadAt : GoodIn wsX9_isLatched wsX9_loadAt := goodIn_r _ [5] (by decide +kernel) (by decide +kernel)
set_option maxRecDepth 20000 in
theorem gX9_isLatched_X9_loadAt : GoodIn wsX9_isLatched (va_wsS RX9 45 yX9_loadAt wsX9_loadAt) := goodIn_app (goodIn_of _ (by decide +kernel)) ggX9_isLatched_X9_loadAt
theorem dX9_isLatched_0 : decode cX9_isLatched 0 = .ok (.aload_n 0, 1) := by decide +kernel
theorem dX9_isLatched_1 : decode cX9_isLatched 1 = .ok (.getfield 7, 3) := by decide +kernel
theorem dX9_isLatched_4 : decode cX9_isLatched 4 = .ok (.iload_n 1, 1) := by decide +kernel
theorem dX9_isLatched_5 : decode cX9_isLatched 5 = .ok (.invokestatic 45, 3) := by decide +kernel
theorem dX9_isLatched_8 : decode cX9_isLatched 8 = .ok (.bipush 12, 2) := by decide +kernel
theorem dX9_isLatched_10 : decode cX9_isLatched 10 = .ok (.iadd, 1) := by decide +kernel
theorem dX9_isLatched_11 : decode cX9_isLatched 11 = .ok (.iconst 3, 1) := by decide +kernel
theorem dX9_isLatched_12 : decode cX9_isLatched 12 = .ok (.iload_n 2, 1) := by decide +kernel
theorem dX9_isLatched_13 : decode cX9_isLatched 13 = .ok (.imul, 1) := by decide +kernel
theorem dX9_isLatched_14 : decode cX9_isLatched 14 = .ok (.iadd, 1) := by decide +kernel
theorem dX9_isLatched_15 : decode cX9_isLatched 15 = .ok (.iaload, 1) := by decide +kernel
theorem dX9_isLatched_16 : decode cX9_isLatched 16 = .ok (.iconst (-1), 1) := by decide +kernel
theorem dX9_isLatched_17 : decode cX9_isLatched 17 = .ok (.if_icmp .eq 7, 3) := by decide +kernel
theorem dX9_isLatched_20 : decode cX9_isLatched 20 = .ok (.iconst 1, 1) := by decide +kernel
theorem dX9_isLatched_21 : decode cX9_isLatched 21 = .ok (.goto 4, 3) := by decide +kernel
theorem dX9_isLatched_24 : decode cX9_isLatched 24 = .ok (.iconst 0, 1) := by decide +kernel
theorem dX9_isLatched_25 : decode cX9_isLatched 25 = .ok (.ireturn, 1) := by decide +kernel
set_option maxRecDepth 20000 in
theorem ggX9_latched_X9_isLatched : GoodIn wsX9_latched wsX9_isLatched := goodIn_r _ [5, 6, 7, 8, 4, 9, 10, 11, 12, 13, 14, 15, 16, 17, 18, 19, 20, 21, 22] (by decide +kernel) (by decide +kernel)
set_option maxRecDepth 20000 in
theorem gX9_latched_X9_isLatched : GoodIn wsX9_latched (wsV RX9 49 RX9 yX9_isLatched wsX9_isLatched) := goodIn_app (goodIn_of _ (by decide +kernel)) ggX9_latched_X9_isLatched
theorem dX9_latched_0 : decode cX9_latched 0 = .ok (.iconst 0, 1) := by decide +kernel
theorem dX9_latched_1 : decode cX9_latched 1 = .ok (.istore_n 2, 1) := by decide +kernel
theorem dX9_latched_2 : decode cX9_latched 2 = .ok (.iconst 0, 1) := by decide +kernel
theorem dX9_latched_3 : decode cX9_latched 3 = .ok (.istore_n 3, 1) := by decide +kernel
theorem dX9_latched_4 : decode cX9_latched 4 = .ok (.iload_n 3, 1) := by decide +kernel
theorem dX9_latched_5 : decode cX9_latched 5 = .ok (.iconst 3, 1) := by decide +kernel
theorem dX9_latched_6 : decode cX9_latched 6 = .ok (.if_icmp .ge 26, 3) := by decide +kernel
theorem dX9_latched_9 : decode cX9_latched 9 = .ok (.iload_n 2, 1) := by decide +kernel
theorem dX9_latched_10 : decode cX9_latched 10 = .ok (.aload_n 0, 1) := by decide +kernel
theorem dX9_latched_11 : decode cX9_latched 11 = .ok (.iload_n 1, 1) := by decide +kernel
theorem dX9_latched_12 : decode cX9_latched 12 = .ok (.iload_n 3, 1) := by decide +kernel
theorem dX9_latched_13 : decode cX9_latched 13 = .ok (.invokevirtual 49, 3) := by decide +kernel
theorem dX9_latched_16 : decode cX9_latched 16 = .ok (.ifCond .eq 7, 3) := by decide +kernel
theorem dX9_latched_19 : decode cX9_latched 19 = .ok (.iconst 1, 1) := by decide +kernel
theorem dX9_latched_20 : decode cX9_latched 20 = .ok (.goto 4, 3) := by decide +kernel
theorem dX9_latched_23 : decode cX9_latched 23 = .ok (.iconst 0, 1) := by decide +kernel
theorem dX9_latched_24 : decode cX9_latched 24 = .ok (.iadd, 1) := by decide +kernel
theorem dX9_latched_25 : decode cX9_latched 25 = .ok (.istore_n 2, 1) := by decide +kernel
theorem dX9_latched_26 : decode cX9_latched 26 = .ok (.iinc 3 1, 3) := by decide +kernel
theorem dX9_latched_29 : decode cX9_latched 29 = .ok (.goto (-25), 3) := by decide +kernel
theorem dX9_latched_32 : decode cX9_latched 32 = .ok (.iload_n 2, 1) := by decide +kernel
theorem dX9_latched_33 : decode cX9_latched 33 = .ok (.ireturn, 1) := by decide +kernel
set_option maxRecDepth 20000 in
theorem ggX9_wish_X9_latched : GoodIn wsX9_wish wsX9_latched := goodIn_r _ [6, 7, 8, 9, 5, 10, 1, 11, 12, 13, 17, 18, 19, 20, 21, 22, 23, 24, 25, 26, 27, 28, 29] (by decide +kernel) (by decide +kernel)
set_option maxRecDepth 20000 in
theorem gX9_wish_X9_latched : GoodIn wsX9_wish (wsV RX9 53 RX9 yX9_latched wsX9_latched) := goodIn_app (goodIn_of _ (by decide +kernel)) ggX9_wish_X9_latched
set_option maxRecDepth 20000 in
theorem ggX9_wish_X9_loadAt : GoodIn wsX9_wish wsX9_loadAt := goodIn_r _ [13] (by decide +kernel) (by decide +kernel)
set_option maxRecDepth 20000 in
theorem gX9_wish_X9_loadAt : GoodIn wsX9_wish (va_wsS RX9 45 yX9_loadAt wsX9_loadAt) := goodIn_app (goodIn_of _ (by decide +kernel)) ggX9_wish_X9_loadAt
set_option maxRecDepth 20000 in
theorem ggX9_wish_X9_legAt : GoodIn wsX9_wish wsX9_legAt := goodIn_r _ [16] (by decide +kernel) (by decide +kernel)
set_option maxRecDepth 20000 in
theorem gX9_wish_X9_legAt : GoodIn wsX9_wish (va_wsS RX9 56 yX9_legAt wsX9_legAt) := goodIn_app (goodIn_of _ (by decide +kernel)) ggX9_wish_X9_legAt
theorem dX9_wish_0 : decode cX9_wish 0 = .ok (.iload_n 1, 1) := by decide +kernel
theorem dX9_wish_1 : decode cX9_wish 1 = .ok (.iconst 2, 1) := by decide +kernel
theorem dX9_wish_2 : decode cX9_wish 2 = .ok (.idiv, 1) := by decide +kernel
theorem dX9_wish_3 : decode cX9_wish 3 = .ok (.istore_n 2, 1) := by decide +kernel
theorem dX9_wish_4 : decode cX9_wish 4 = .ok (.aload_n 0, 1) := by decide +kernel
theorem dX9_wish_5 : decode cX9_wish 5 = .ok (.iload_n 2, 1) := by decide +kernel
theorem dX9_wish_6 : decode cX9_wish 6 = .ok (.invokevirtual 53, 3) := by decide +kernel
theorem dX9_wish_9 : decode cX9_wish 9 = .ok (.ifCond .le 5, 3) := by decide +kernel
theorem dX9_wish_12 : decode cX9_wish 12 = .ok (.iconst 0, 1) := by decide +kernel
theorem dX9_wish_13 : decode cX9_wish 13 = .ok (.ireturn, 1) := by decide +kernel
theorem dX9_wish_14 : decode cX9_wish 14 = .ok (.iload_n 1, 1) := by decide +kernel
theorem dX9_wish_15 : decode cX9_wish 15 = .ok (.iconst 2, 1) := by decide +kernel
theorem dX9_wish_16 : decode cX9_wish 16 = .ok (.irem, 1) := by decide +kernel
theorem dX9_wish_17 : decode cX9_wish 17 = .ok (.ifCond .ne 23, 3) := by decide +kernel
theorem dX9_wish_20 : decode cX9_wish 20 = .ok (.aload_n 0, 1) := by decide +kernel
theorem dX9_wish_21 : decode cX9_wish 21 = .ok (.getfield 7, 3) := by decide +kernel
theorem dX9_wish_24 : decode cX9_wish 24 = .ok (.iload_n 2, 1) := by decide +kernel
theorem dX9_wish_25 : decode cX9_wish 25 = .ok (.invokestatic 45, 3) := by decide +kernel
theorem dX9_wish_28 : decode cX9_wish 28 = .ok (.bipush 7, 2) := by decide +kernel
theorem dX9_wish_30 : decode cX9_wish 30 = .ok (.iadd, 1) := by decide +kernel
theorem dX9_wish_31 : decode cX9_wish 31 = .ok (.iaload, 1) := by decide +kernel
theorem dX9_wish_32 : decode cX9_wish 32 = .ok (.iconst 1, 1) := by decide +kernel
theorem dX9_wish_33 : decode cX9_wish 33 = .ok (.if_icmp .ne 7, 3) := by decide +kernel
theorem dX9_wish_36 : decode cX9_wish 36 = .ok (.iconst 1, 1) := by decide +kernel
theorem dX9_wish_37 : decode cX9_wish 37 = .ok (.goto 4, 3) := by decide +kernel
theorem dX9_wish_40 : decode cX9_wish 40 = .ok (.iconst 0, 1) := by decide +kernel
theorem dX9_wish_41 : decode cX9_wish 41 = .ok (.istore_n 3, 1) := by decide +kernel
theorem dX9_wish_42 : decode cX9_wish 42 = .ok (.aload_n 0, 1) := by decide +kernel
theorem dX9_wish_43 : decode cX9_wish 43 = .ok (.getfield 7, 3) := by decide +kernel
theorem dX9_wish_46 : decode cX9_wish 46 = .ok (.iload_n 3, 1) := by decide +kernel
theorem dX9_wish_47 : decode cX9_wish 47 = .ok (.ifCond .eq 9, 3) := by decide +kernel
theorem dX9_wish_50 : decode cX9_wish 50 = .ok (.iload_n 1, 1) := by decide +kernel
theorem dX9_wish_51 : decode cX9_wish 51 = .ok (.iconst 1, 1) := by decide +kernel
theorem dX9_wish_52 : decode cX9_wish 52 = .ok (.iadd, 1) := by decide +kernel
theorem dX9_wish_53 : decode cX9_wish 53 = .ok (.goto 4, 3) := by decide +kernel
theorem dX9_wish_56 : decode cX9_wish 56 = .ok (.iload_n 1, 1) := by decide +kernel
theorem dX9_wish_57 : decode cX9_wish 57 = .ok (.invokestatic 56, 3) := by decide +kernel
theorem dX9_wish_60 : decode cX9_wish 60 = .ok (.iconst 0, 1) := by decide +kernel
theorem dX9_wish_61 : decode cX9_wish 61 = .ok (.iadd, 1) := by decide +kernel
theorem dX9_wish_62 : decode cX9_wish 62 = .ok (.iaload, 1) := by decide +kernel
theorem dX9_wish_63 : decode cX9_wish 63 = .ok (.ireturn, 1) := by decide +kernel
set_option maxRecDepth 20000 in
theorem ggX9_turnsLeg_X9_legAt : GoodIn wsX9_turnsLeg wsX9_legAt := goodIn_r _ [5] (by decide +kernel) (by decide +kernel)
set_option maxRecDepth 20000 in
theorem gX9_turnsLeg_X9_legAt : GoodIn wsX9_turnsLeg (va_wsS RX9 56 yX9_legAt wsX9_legAt) := goodIn_app (goodIn_of _ (by decide +kernel)) ggX9_turnsLeg_X9_legAt
set_option maxRecDepth 20000 in
theorem ggX9_turnsLeg_X9_loadAt : GoodIn wsX9_turnsLeg wsX9_loadAt := goodIn_r _ [8] (by decide +kernel) (by decide +kernel)
set_option maxRecDepth 20000 in
theorem gX9_turnsLeg_X9_loadAt : GoodIn wsX9_turnsLeg (va_wsS RX9 45 yX9_loadAt wsX9_loadAt) := goodIn_app (goodIn_of _ (by decide +kernel)) ggX9_turnsLeg_X9_loadAt
theorem dX9_turnsLeg_0 : decode cX9_turnsLeg 0 = .ok (.iload_n 1, 1) := by decide +kernel
theorem dX9_turnsLeg_1 : decode cX9_turnsLeg 1 = .ok (.invokestatic 56, 3) := by decide +kernel
theorem dX9_turnsLeg_4 : decode cX9_turnsLeg 4 = .ok (.istore_n 3, 1) := by decide +kernel
theorem dX9_turnsLeg_5 : decode cX9_turnsLeg 5 = .ok (.aload_n 0, 1) := by decide +kernel
theorem dX9_turnsLeg_6 : decode cX9_turnsLeg 6 = .ok (.getfield 7, 3) := by decide +kernel
theorem dX9_turnsLeg_9 : decode cX9_turnsLeg 9 = .ok (.iload_n 3, 1) := by decide +kernel
theorem dX9_turnsLeg_10 : decode cX9_turnsLeg 10 = .ok (.iconst 1, 1) := by decide +kernel
theorem dX9_turnsLeg_11 : decode cX9_turnsLeg 11 = .ok (.iadd, 1) := by decide +kernel
theorem dX9_turnsLeg_12 : decode cX9_turnsLeg 12 = .ok (.iaload, 1) := by decide +kernel
theorem dX9_turnsLeg_13 : decode cX9_turnsLeg 13 = .ok (.istore 4, 2) := by decide +kernel
theorem dX9_turnsLeg_15 : decode cX9_turnsLeg 15 = .ok (.aload_n 0, 1) := by decide +kernel
theorem dX9_turnsLeg_16 : decode cX9_turnsLeg 16 = .ok (.getfield 7, 3) := by decide +kernel
theorem dX9_turnsLeg_19 : decode cX9_turnsLeg 19 = .ok (.iload_n 3, 1) := by decide +kernel
theorem dX9_turnsLeg_20 : decode cX9_turnsLeg 20 = .ok (.iconst 2, 1) := by decide +kernel
theorem dX9_turnsLeg_21 : decode cX9_turnsLeg 21 = .ok (.iadd, 1) := by decide +kernel
theorem dX9_turnsLeg_22 : decode cX9_turnsLeg 22 = .ok (.iaload, 1) := by decide +kernel
theorem dX9_turnsLeg_23 : decode cX9_turnsLeg 23 = .ok (.iconst (-1), 1) := by decide +kernel
theorem dX9_turnsLeg_24 : decode cX9_turnsLeg 24 = .ok (.if_icmp .eq 20, 3) := by decide +kernel
theorem dX9_turnsLeg_27 : decode cX9_turnsLeg 27 = .ok (.aload_n 0, 1) := by decide +kernel
theorem dX9_turnsLeg_28 : decode cX9_turnsLeg 28 = .ok (.getfield 7, 3) := by decide +kernel
theorem dX9_turnsLeg_31 : decode cX9_turnsLeg 31 = .ok (.iload_n 3, 1) := by decide +kernel
theorem dX9_turnsLeg_32 : decode cX9_turnsLeg 32 = .ok (.iconst 2, 1) := by decide +kernel
theorem dX9_turnsLeg_33 : decode cX9_turnsLeg 33 = .ok (.iadd, 1) := by decide +kernel
theorem dX9_turnsLeg_34 : decode cX9_turnsLeg 34 = .ok (.iaload, 1) := by decide +kernel
theorem dX9_turnsLeg_35 : decode cX9_turnsLeg 35 = .ok (.aload_n 0, 1) := by decide +kernel
theorem dX9_turnsLeg_36 : decode cX9_turnsLeg 36 = .ok (.getfield 7, 3) := by decide +kernel
theorem dX9_turnsLeg_39 : decode cX9_turnsLeg 39 = .ok (.iconst 1, 1) := by decide +kernel
theorem dX9_turnsLeg_40 : decode cX9_turnsLeg 40 = .ok (.iaload, 1) := by decide +kernel
theorem dX9_turnsLeg_41 : decode cX9_turnsLeg 41 = .ok (.if_icmp .lt 7, 3) := by decide +kernel
theorem dX9_turnsLeg_44 : decode cX9_turnsLeg 44 = .ok (.iconst 1, 1) := by decide +kernel
theorem dX9_turnsLeg_45 : decode cX9_turnsLeg 45 = .ok (.goto 4, 3) := by decide +kernel
theorem dX9_turnsLeg_48 : decode cX9_turnsLeg 48 = .ok (.iconst 0, 1) := by decide +kernel
theorem dX9_turnsLeg_49 : decode cX9_turnsLeg 49 = .ok (.istore 5, 2) := by decide +kernel
theorem dX9_turnsLeg_51 : decode cX9_turnsLeg 51 = .ok (.iload_n 2, 1) := by decide +kernel
theorem dX9_turnsLeg_52 : decode cX9_turnsLeg 52 = .ok (.iload 4, 2) := by decide +kernel
theorem dX9_turnsLeg_54 : decode cX9_turnsLeg 54 = .ok (.if_icmp .eq 7, 3) := by decide +kernel
theorem dX9_turnsLeg_57 : decode cX9_turnsLeg 57 = .ok (.iload_n 2, 1) := by decide +kernel
theorem dX9_turnsLeg_58 : decode cX9_turnsLeg 58 = .ok (.ifCond .ne 7, 3) := by decide +kernel
theorem dX9_turnsLeg_61 : decode cX9_turnsLeg 61 = .ok (.iload_n 2, 1) := by decide +kernel
theorem dX9_turnsLeg_62 : decode cX9_turnsLeg 62 = .ok (.goto 27, 3) := by decide +kernel
theorem dX9_turnsLeg_65 : decode cX9_turnsLeg 65 = .ok (.iload 4, 2) := by decide +kernel
theorem dX9_turnsLeg_67 : decode cX9_turnsLeg 67 = .ok (.ifCond .ne 8, 3) := by decide +kernel
theorem dX9_turnsLeg_70 : decode cX9_turnsLeg 70 = .ok (.iload 5, 2) := by decide +kernel
theorem dX9_turnsLeg_72 : decode cX9_turnsLeg 72 = .ok (.ifCond .ne 12, 3) := by decide +kernel
theorem dX9_turnsLeg_75 : decode cX9_turnsLeg 75 = .ok (.aload_n 0, 1) := by decide +kernel
theorem dX9_turnsLeg_76 : decode cX9_turnsLeg 76 = .ok (.getfield 7, 3) := by decide +kernel
theorem dX9_turnsLeg_79 : decode cX9_turnsLeg 79 = .ok (.iconst 1, 1) := by decide +kernel
theorem dX9_turnsLeg_80 : decode cX9_turnsLeg 80 = .ok (.iaload, 1) := by decide +kernel
theorem dX9_turnsLeg_81 : decode cX9_turnsLeg 81 = .ok (.ifCond .ne 7, 3) := by decide +kernel
theorem dX9_turnsLeg_84 : decode cX9_turnsLeg 84 = .ok (.iload_n 2, 1) := by decide +kernel
theorem dX9_turnsLeg_85 : decode cX9_turnsLeg 85 = .ok (.goto 4, 3) := by decide +kernel
theorem dX9_turnsLeg_88 : decode cX9_turnsLeg 88 = .ok (.iconst 0, 1) := by decide +kernel
theorem dX9_turnsLeg_89 : decode cX9_turnsLeg 89 = .ok (.istore 6, 2) := by decide +kernel
theorem dX9_turnsLeg_91 : decode cX9_turnsLeg 91 = .ok (.aload_n 0, 1) := by decide +kernel
theorem dX9_turnsLeg_92 : decode cX9_turnsLeg 92 = .ok (.getfield 7, 3) := by decide +kernel
theorem dX9_turnsLeg_95 : decode cX9_turnsLeg 95 = .ok (.iload_n 3, 1) := by decide +kernel
theorem dX9_turnsLeg_96 : decode cX9_turnsLeg 96 = .ok (.iconst 1, 1) := by decide +kernel
theorem dX9_turnsLeg_97 : decode cX9_turnsLeg 97 = .ok (.iadd, 1) := by decide +kernel
theorem dX9_turnsLeg_98 : decode cX9_turnsLeg 98 = .ok (.iload 6, 2) := by decide +kernel
theorem dX9_turnsLeg_100 : decode cX9_turnsLeg 100 = .ok (.iastore, 1) := by decide +kernel
theorem dX9_turnsLeg_101 : decode cX9_turnsLeg 101 = .ok (.iload 6, 2) := by decide +kernel
theorem dX9_turnsLeg_103 : decode cX9_turnsLeg 103 = .ok (.iload 4, 2) := by decide +kernel
theorem dX9_turnsLeg_105 : decode cX9_turnsLeg 105 = .ok (.if_icmp .eq 46, 3) := by decide +kernel
theorem dX9_turnsLeg_108 : decode cX9_turnsLeg 108 = .ok (.aload_n 0, 1) := by decide +kernel
theorem dX9_turnsLeg_109 : decode cX9_turnsLeg 109 = .ok (.getfield 7, 3) := by decide +kernel
theorem dX9_turnsLeg_112 : decode cX9_turnsLeg 112 = .ok (.iload_n 3, 1) := by decide +kernel
theorem dX9_turnsLeg_113 : decode cX9_turnsLeg 113 = .ok (.iconst 3, 1) := by decide +kernel
theorem dX9_turnsLeg_114 : decode cX9_turnsLeg 114 = .ok (.iadd, 1) := by decide +kernel
theorem dX9_turnsLeg_115 : decode cX9_turnsLeg 115 = .ok (.dup2, 1) := by decide +kernel
theorem dX9_turnsLeg_116 : decode cX9_turnsLeg 116 = .ok (.iaload, 1) := by decide +kernel
theorem dX9_turnsLeg_117 : decode cX9_turnsLeg 117 = .ok (.iconst 1, 1) := by decide +kernel
theorem dX9_turnsLeg_118 : decode cX9_turnsLeg 118 = .ok (.iadd, 1) := by decide +kernel
theorem dX9_turnsLeg_119 : decode cX9_turnsLeg 119 = .ok (.iastore, 1) := by decide +kernel
theorem dX9_turnsLeg_120 : decode cX9_turnsLeg 120 = .ok (.aload_n 0, 1) := by decide +kernel
theorem dX9_turnsLeg_121 : decode cX9_turnsLeg 121 = .ok (.getfield 7, 3) := by decide +kernel
theorem dX9_turnsLeg_124 : decode cX9_turnsLeg 124 = .ok (.bipush 100, 2) := by decide +kernel
theorem dX9_turnsLeg_126 : decode cX9_turnsLeg 126 = .ok (.dup2, 1) := by decide +kernel
theorem dX9_turnsLeg_127 : decode cX9_turnsLeg 127 = .ok (.iaload, 1) := by decide +kernel
theorem dX9_turnsLeg_128 : decode cX9_turnsLeg 128 = .ok (.iconst 1, 1) := by decide +kernel
theorem dX9_turnsLeg_129 : decode cX9_turnsLeg 129 = .ok (.iadd, 1) := by decide +kernel
theorem dX9_turnsLeg_130 : decode cX9_turnsLeg 130 = .ok (.iastore, 1) := by decide +kernel
theorem dX9_turnsLeg_131 : decode cX9_turnsLeg 131 = .ok (.aload_n 0, 1) := by decide +kernel
theorem dX9_turnsLeg_132 : decode cX9_turnsLeg 132 = .ok (.getfield 7, 3) := by decide +kernel
theorem dX9_turnsLeg_135 : decode cX9_turnsLeg 135 = .ok (.iload_n 1, 1) := by decide +kernel
theorem dX9_turnsLeg_136 : decode cX9_turnsLeg 136 = .ok (.iconst 2, 1) := by decide +kernel
theorem dX9_turnsLeg_137 : decode cX9_turnsLeg 137 = .ok (.idiv, 1) := by decide +kernel
theorem dX9_turnsLeg_138 : decode cX9_turnsLeg 138 = .ok (.invokestatic 45, 3) := by decide +kernel
theorem dX9_turnsLeg_141 : decode cX9_turnsLeg 141 = .ok (.bipush 8, 2) := by decide +kernel
theorem dX9_turnsLeg_143 : decode cX9_turnsLeg 143 = .ok (.iadd, 1) := by decide +kernel
theorem dX9_turnsLeg_144 : decode cX9_turnsLeg 144 = .ok (.aload_n 0, 1) := by decide +kernel
theorem dX9_turnsLeg_145 : decode cX9_turnsLeg 145 = .ok (.getfield 7, 3) := by decide +kernel
theorem dX9_turnsLeg_148 : decode cX9_turnsLeg 148 = .ok (.iconst 2, 1) := by decide +kernel
theorem dX9_turnsLeg_149 : decode cX9_turnsLeg 149 = .ok (.iaload, 1) := by decide +kernel
theorem dX9_turnsLeg_150 : decode cX9_turnsLeg 150 = .ok (.iastore, 1) := by decide +kernel
theorem dX9_turnsLeg_151 : decode cX9_turnsLeg 151 = .ok (.aload_n 0, 1) := by decide +kernel
theorem dX9_turnsLeg_152 : decode cX9_turnsLeg 152 = .ok (.getfield 7, 3) := by decide +kernel
theorem dX9_turnsLeg_155 : decode cX9_turnsLeg 155 = .ok (.iload_n 3, 1) := by decide +kernel
theorem dX9_turnsLeg_156 : decode cX9_turnsLeg 156 = .ok (.iconst 2, 1) := by decide +kernel
theorem dX9_turnsLeg_157 : decode cX9_turnsLeg 157 = .ok (.iadd, 1) := by decide +kernel
theorem dX9_turnsLeg_158 : decode cX9_turnsLeg 158 = .ok (.iload 6, 2) := by decide +kernel
theorem dX9_turnsLeg_160 : decode cX9_turnsLeg 160 = .ok (.ifCond .le 7, 3) := by decide +kernel
theorem dX9_turnsLeg_163 : decode cX9_turnsLeg 163 = .ok (.iconst 0, 1) := by decide +kernel
theorem dX9_turnsLeg_164 : decode cX9_turnsLeg 164 = .ok (.goto 29, 3) := by decide +kernel
theorem dX9_turnsLeg_167 : decode cX9_turnsLeg 167 = .ok (.aload_n 0, 1) := by decide +kernel
theorem dX9_turnsLeg_168 : decode cX9_turnsLeg 168 = .ok (.getfield 7, 3) := by decide +kernel
theorem dX9_turnsLeg_171 : decode cX9_turnsLeg 171 = .ok (.iload_n 3, 1) := by decide +kernel
theorem dX9_turnsLeg_172 : decode cX9_turnsLeg 172 = .ok (.iconst 2, 1) := by decide +kernel
theorem dX9_turnsLeg_173 : decode cX9_turnsLeg 173 = .ok (.iadd, 1) := by decide +kernel
theorem dX9_turnsLeg_174 : decode cX9_turnsLeg 174 = .ok (.iaload, 1) := by decide +kernel
theorem dX9_turnsLeg_175 : decode cX9_turnsLeg 175 = .ok (.iconst (-1), 1) := by decide +kernel
theorem dX9_turnsLeg_176 : decode cX9_turnsLeg 176 = .ok (.if_icmp .ne 7, 3) := by decide +kernel
theorem dX9_turnsLeg_179 : decode cX9_turnsLeg 179 = .ok (.iconst (-1), 1) := by decide +kernel
theorem dX9_turnsLeg_180 : decode cX9_turnsLeg 180 = .ok (.goto 13, 3) := by decide +kernel
theorem dX9_turnsLeg_183 : decode cX9_turnsLeg 183 = .ok (.aload_n 0, 1) := by decide +kernel
theorem dX9_turnsLeg_184 : decode cX9_turnsLeg 184 = .ok (.getfield 7, 3) := by decide +kernel
theorem dX9_turnsLeg_187 : decode cX9_turnsLeg 187 = .ok (.iload_n 3, 1) := by decide +kernel
theorem dX9_turnsLeg_188 : decode cX9_turnsLeg 188 = .ok (.iconst 2, 1) := by decide +kernel
theorem dX9_turnsLeg_189 : decode cX9_turnsLeg 189 = .ok (.iadd, 1) := by decide +kernel
theorem dX9_turnsLeg_190 : decode cX9_turnsLeg 190 = .ok (.iaload, 1) := by decide +kernel
theorem dX9_turnsLeg_191 : decode cX9_turnsLeg 191 = .ok (.iconst 1, 1) := by decide +kernel
theorem dX9_turnsLeg_192 : decode cX9_turnsLeg 192 = .ok (.iadd, 1) := by decide +kernel
theorem dX9_turnsLeg_193 : decode cX9_turnsLeg 193 = .ok (.iastore, 1) := by decide +kernel
theorem dX9_turnsLeg_194 : decode cX9_turnsLeg 194 = .ok (.aload_n 0, 1) := by decide +kernel
theorem dX9_turnsLeg_195 : decode cX9_turnsLeg 195 = .ok (.getfield 7, 3) := by decide +kernel
theorem dX9_turnsLeg_198 : decode cX9_turnsLeg 198 = .ok (.iload_n 3, 1) := by decide +kernel
theorem dX9_turnsLeg_199 : decode cX9_turnsLeg 199 = .ok (.iconst 4, 1) := by decide +kernel
theorem dX9_turnsLeg_200 : decode cX9_turnsLeg 200 = .ok (.iadd, 1) := by decide +kernel
theorem dX9_turnsLeg_201 : decode cX9_turnsLeg 201 = .ok (.iload 6, 2) := by decide +kernel
theorem dX9_turnsLeg_203 : decode cX9_turnsLeg 203 = .ok (.ifCond .ne 7, 3) := by decide +kernel
theorem dX9_turnsLeg_206 : decode cX9_turnsLeg 206 = .ok (.iconst 2, 1) := by decide +kernel
theorem dX9_turnsLeg_207 : decode cX9_turnsLeg 207 = .ok (.goto 7, 3) := by decide +kernel
theorem dX9_turnsLeg_210 : decode cX9_turnsLeg 210 = .ok (.iload 6, 2) := by decide +kernel
theorem dX9_turnsLeg_212 : decode cX9_turnsLeg 212 = .ok (.iconst 1, 1) := by decide +kernel
theorem dX9_turnsLeg_213 : decode cX9_turnsLeg 213 = .ok (.isub, 1) := by decide +kernel
theorem dX9_turnsLeg_214 : decode cX9_turnsLeg 214 = .ok (.iadd, 1) := by decide +kernel
theorem dX9_turnsLeg_215 : decode cX9_turnsLeg 215 = .ok (.dup2, 1) := by decide +kernel
theorem dX9_turnsLeg_216 : decode cX9_turnsLeg 216 = .ok (.iaload, 1) := by decide +kernel
theorem dX9_turnsLeg_217 : decode cX9_turnsLeg 217 = .ok (.iconst 1, 1) := by decide +kernel
theorem dX9_turnsLeg_218 : decode cX9_turnsLeg 218 = .ok (.iadd, 1) := by decide +kernel
theorem dX9_turnsLeg_219 : decode cX9_turnsLeg 219 = .ok (.iastore, 1) := by decide +kernel
theorem dX9_turnsLeg_220 : decode cX9_turnsLeg 220 = .ok (.return_, 1) := by decide +kernel
theorem dX9_toward_0 : decode cX9_toward 0 = .ok (.iload_n 0, 1) := by decide +kernel
theorem dX9_toward_1 : decode cX9_toward 1 = .ok (.iload_n 1, 1) := by decide +kernel
theorem dX9_toward_2 : decode cX9_toward 2 = .ok (.if_icmp .le 9, 3) := by decide +kernel
theorem dX9_toward_5 : decode cX9_toward 5 = .ok (.iload_n 0, 1) := by decide +kernel
theorem dX9_toward_6 : decode cX9_toward 6 = .ok (.iload_n 1, 1) := by decide +kernel
theorem dX9_toward_7 : decode cX9_toward 7 = .ok (.isub, 1) := by decide +kernel
theorem dX9_toward_8 : decode cX9_toward 8 = .ok (.goto 16, 3) := by decide +kernel
theorem dX9_toward_11 : decode cX9_toward 11 = .ok (.iload_n 0, 1) := by decide +kernel
theorem dX9_toward_12 : decode cX9_toward 12 = .ok (.iload_n 1, 1) := by decide +kernel
theorem dX9_toward_13 : decode cX9_toward 13 = .ok (.ineg, 1) := by decide +kernel
theorem dX9_toward_14 : decode cX9_toward 14 = .ok (.if_icmp .ge 9, 3) := by decide +kernel
theorem dX9_toward_17 : decode cX9_toward 17 = .ok (.iload_n 0, 1) := by decide +kernel
theorem dX9_toward_18 : decode cX9_toward 18 = .ok (.iload_n 1, 1) := by decide +kernel
theorem dX9_toward_19 : decode cX9_toward 19 = .ok (.iadd, 1) := by decide +kernel
theorem dX9_toward_20 : decode cX9_toward 20 = .ok (.goto 4, 3) := by decide +kernel
theorem dX9_toward_23 : decode cX9_toward 23 = .ok (.iconst 0, 1) := by decide +kernel
theorem dX9_toward_24 : decode cX9_toward 24 = .ok (.ireturn, 1) := by decide +kernel
set_option maxRecDepth 20000 in
theorem ggX9_flows_X9_loadAt : GoodIn wsX9_flows wsX9_loadAt := goodIn_r _ [7] (by decide +kernel) (by decide +kernel)
set_option maxRecDepth 20000 in
theorem gX9_flows_X9_loadAt : GoodIn wsX9_flows (va_wsS RX9 45 yX9_loadAt wsX9_loadAt) := goodIn_app (goodIn_of _ (by decide +kernel)) ggX9_flows_X9_loadAt
set_option maxRecDepth 20000 in
theorem ggX9_flows_X9_legAt : GoodIn wsX9_flows wsX9_legAt := goodIn_r _ [10] (by decide +kernel) (by decide +kernel)
set_option maxRecDepth 20000 in
theorem gX9_flows_X9_legAt : GoodIn wsX9_flows (va_wsS RX9 56 yX9_legAt wsX9_legAt) := goodIn_app (goodIn_of _ (by decide +kernel)) ggX9_flows_X9_legAt
set_option maxRecDepth 20000 in
theorem ggX9_flows_X9_toward : GoodIn wsX9_flows wsX9_toward := goodIn_r _ [13] (by decide +kernel) (by decide +kernel)
set_option maxRecDepth 20000 in
theorem gX9_flows_X9_toward : GoodIn wsX9_flows (va_wsS RX9 59 yX9_toward wsX9_toward) := goodIn_app (goodIn_of _ (by decide +kernel)) ggX9_flows_X9_toward
theorem dX9_flows_0 : decode cX9_flows 0 = .ok (.iload_n 1, 1) := by decide +kernel
theorem dX9_flows_1 : decode cX9_flows 1 = .ok (.invokestatic 45, 3) := by decide +kernel
theorem dX9_flows_4 : decode cX9_flows 4 = .ok (.istore_n 2, 1) := by decide +kernel
theorem dX9_flows_5 : decode cX9_flows 5 = .ok (.aload_n 0, 1) := by decide +kernel
theorem dX9_flows_6 : decode cX9_flows 6 = .ok (.getfield 7, 3) := by decide +kernel
theorem dX9_flows_9 : decode cX9_flows 9 = .ok (.iconst 2, 1) := by decide +kernel
theorem dX9_flows_10 : decode cX9_flows 10 = .ok (.iload_n 1, 1) := by decide +kernel
theorem dX9_flows_11 : decode cX9_flows 11 = .ok (.imul, 1) := by decide +kernel
theorem dX9_flows_12 : decode cX9_flows 12 = .ok (.invokestatic 56, 3) := by decide +kernel
theorem dX9_flows_15 : decode cX9_flows 15 = .ok (.iconst 1, 1) := by decide +kernel
theorem dX9_flows_16 : decode cX9_flows 16 = .ok (.iadd, 1) := by decide +kernel
theorem dX9_flows_17 : decode cX9_flows 17 = .ok (.iaload, 1) := by decide +kernel
theorem dX9_flows_18 : decode cX9_flows 18 = .ok (.istore_n 3, 1) := by decide +kernel
theorem dX9_flows_19 : decode cX9_flows 19 = .ok (.aload_n 0, 1) := by decide +kernel
theorem dX9_flows_20 : decode cX9_flows 20 = .ok (.getfield 7, 3) := by decide +kernel
theorem dX9_flows_23 : decode cX9_flows 23 = .ok (.iconst 2, 1) := by decide +kernel
theorem dX9_flows_24 : decode cX9_flows 24 = .ok (.iload_n 1, 1) := by decide +kernel
theorem dX9_flows_25 : decode cX9_flows 25 = .ok (.imul, 1) := by decide +kernel
theorem dX9_flows_26 : decode cX9_flows 26 = .ok (.iconst 1, 1) := by decide +kernel
theorem dX9_flows_27 : decode cX9_flows 27 = .ok (.iadd, 1) := by decide +kernel
theorem dX9_flows_28 : decode cX9_flows 28 = .ok (.invokestatic 56, 3) := by decide +kernel
theorem dX9_flows_31 : decode cX9_flows 31 = .ok (.iconst 1, 1) := by decide +kernel
theorem dX9_flows_32 : decode cX9_flows 32 = .ok (.iadd, 1) := by decide +kernel
theorem dX9_flows_33 : decode cX9_flows 33 = .ok (.iaload, 1) := by decide +kernel
theorem dX9_flows_34 : decode cX9_flows 34 = .ok (.istore 4, 2) := by decide +kernel
theorem dX9_flows_36 : decode cX9_flows 36 = .ok (.iload_n 3, 1) := by decide +kernel
theorem dX9_flows_37 : decode cX9_flows 37 = .ok (.ifCond .eq 8, 3) := by decide +kernel
theorem dX9_flows_40 : decode cX9_flows 40 = .ok (.iload 4, 2) := by decide +kernel
theorem dX9_flows_42 : decode cX9_flows 42 = .ok (.ifCond .ne 8, 3) := by decide +kernel
theorem dX9_flows_45 : decode cX9_flows 45 = .ok (.bipush 9, 2) := by decide +kernel
theorem dX9_flows_47 : decode cX9_flows 47 = .ok (.goto 23, 3) := by decide +kernel
theorem dX9_flows_50 : decode cX9_flows 50 = .ok (.iload_n 3, 1) := by decide +kernel
theorem dX9_flows_51 : decode cX9_flows 51 = .ok (.iload 4, 2) := by decide +kernel
theorem dX9_flows_53 : decode cX9_flows 53 = .ok (.if_icmp .ne 7, 3) := by decide +kernel
theorem dX9_flows_56 : decode cX9_flows 56 = .ok (.iconst 0, 1) := by decide +kernel
theorem dX9_flows_57 : decode cX9_flows 57 = .ok (.goto 13, 3) := by decide +kernel
theorem dX9_flows_60 : decode cX9_flows 60 = .ok (.iload_n 3, 1) := by decide +kernel
theorem dX9_flows_61 : decode cX9_flows 61 = .ok (.iconst 1, 1) := by decide +kernel
theorem dX9_flows_62 : decode cX9_flows 62 = .ok (.if_icmp .ne 7, 3) := by decide +kernel
theorem dX9_flows_65 : decode cX9_flows 65 = .ok (.iconst 1, 1) := by decide +kernel
theorem dX9_flows_66 : decode cX9_flows 66 = .ok (.goto 4, 3) := by decide +kernel
theorem dX9_flows_69 : decode cX9_flows 69 = .ok (.iconst (-1), 1) := by decide +kernel
theorem dX9_flows_70 : decode cX9_flows 70 = .ok (.istore 5, 2) := by decide +kernel
theorem dX9_flows_72 : decode cX9_flows 72 = .ok (.aload_n 0, 1) := by decide +kernel
theorem dX9_flows_73 : decode cX9_flows 73 = .ok (.getfield 7, 3) := by decide +kernel
theorem dX9_flows_76 : decode cX9_flows 76 = .ok (.iload_n 2, 1) := by decide +kernel
theorem dX9_flows_77 : decode cX9_flows 77 = .ok (.bipush 9, 2) := by decide +kernel
theorem dX9_flows_79 : decode cX9_flows 79 = .ok (.iadd, 1) := by decide +kernel
theorem dX9_flows_80 : decode cX9_flows 80 = .ok (.iload 5, 2) := by decide +kernel
theorem dX9_flows_82 : decode cX9_flows 82 = .ok (.iastore, 1) := by decide +kernel
theorem dX9_flows_83 : decode cX9_flows 83 = .ok (.aload_n 0, 1) := by decide +kernel
theorem dX9_flows_84 : decode cX9_flows 84 = .ok (.getfield 7, 3) := by decide +kernel
theorem dX9_flows_87 : decode cX9_flows 87 = .ok (.iload_n 2, 1) := by decide +kernel
theorem dX9_flows_88 : decode cX9_flows 88 = .ok (.bipush 10, 2) := by decide +kernel
theorem dX9_flows_90 : decode cX9_flows 90 = .ok (.iadd, 1) := by decide +kernel
theorem dX9_flows_91 : decode cX9_flows 91 = .ok (.iload 5, 2) := by decide +kernel
theorem dX9_flows_93 : decode cX9_flows 93 = .ok (.iconst 1, 1) := by decide +kernel
theorem dX9_flows_94 : decode cX9_flows 94 = .ok (.if_icmp .eq 9, 3) := by decide +kernel
theorem dX9_flows_97 : decode cX9_flows 97 = .ok (.iload 5, 2) := by decide +kernel
theorem dX9_flows_99 : decode cX9_flows 99 = .ok (.iconst (-1), 1) := by decide +kernel
theorem dX9_flows_100 : decode cX9_flows 100 = .ok (.if_icmp .ne 17, 3) := by decide +kernel
theorem dX9_flows_103 : decode cX9_flows 103 = .ok (.aload_n 0, 1) := by decide +kernel
theorem dX9_flows_104 : decode cX9_flows 104 = .ok (.getfield 7, 3) := by decide +kernel
theorem dX9_flows_107 : decode cX9_flows 107 = .ok (.iload_n 2, 1) := by decide +kernel
theorem dX9_flows_108 : decode cX9_flows 108 = .ok (.bipush 10, 2) := by decide +kernel
theorem dX9_flows_110 : decode cX9_flows 110 = .ok (.iadd, 1) := by decide +kernel
theorem dX9_flows_111 : decode cX9_flows 111 = .ok (.iaload, 1) := by decide +kernel
theorem dX9_flows_112 : decode cX9_flows 112 = .ok (.iconst 1, 1) := by decide +kernel
theorem dX9_flows_113 : decode cX9_flows 113 = .ok (.iadd, 1) := by decide +kernel
theorem dX9_flows_114 : decode cX9_flows 114 = .ok (.goto 4, 3) := by decide +kernel
theorem dX9_flows_117 : decode cX9_flows 117 = .ok (.iconst 0, 1) := by decide +kernel
theorem dX9_flows_118 : decode cX9_flows 118 = .ok (.iastore, 1) := by decide +kernel
theorem dX9_flows_119 : decode cX9_flows 119 = .ok (.aload_n 0, 1) := by decide +kernel
theorem dX9_flows_120 : decode cX9_flows 120 = .ok (.getfield 7, 3) := by decide +kernel
theorem dX9_flows_123 : decode cX9_flows 123 = .ok (.iload_n 2, 1) := by decide +kernel
theorem dX9_flows_124 : decode cX9_flows 124 = .ok (.iconst 4, 1) := by decide +kernel
theorem dX9_flows_125 : decode cX9_flows 125 = .ok (.iadd, 1) := by decide +kernel
theorem dX9_flows_126 : decode cX9_flows 126 = .ok (.iaload, 1) := by decide +kernel
theorem dX9_flows_127 : decode cX9_flows 127 = .ok (.istore 6, 2) := by decide +kernel
theorem dX9_flows_129 : decode cX9_flows 129 = .ok (.iload 5, 2) := by decide +kernel
theorem dX9_flows_131 : decode cX9_flows 131 = .ok (.bipush 9, 2) := by decide +kernel
theorem dX9_flows_133 : decode cX9_flows 133 = .ok (.if_icmp .ne 30, 3) := by decide +kernel
theorem dX9_flows_136 : decode cX9_flows 136 = .ok (.iload 6, 2) := by decide +kernel
theorem dX9_flows_138 : decode cX9_flows 138 = .ok (.aload_n 0, 1) := by decide +kernel
theorem dX9_flows_139 : decode cX9_flows 139 = .ok (.getfield 7, 3) := by decide +kernel
theorem dX9_flows_142 : decode cX9_flows 142 = .ok (.iload_n 2, 1) := by decide +kernel
theorem dX9_flows_143 : decode cX9_flows 143 = .ok (.iconst 0, 1) := by decide +kernel
theorem dX9_flows_144 : decode cX9_flows 144 = .ok (.iadd, 1) := by decide +kernel
theorem dX9_flows_145 : decode cX9_flows 145 = .ok (.iaload, 1) := by decide +kernel
theorem dX9_flows_146 : decode cX9_flows 146 = .ok (.aload_n 0, 1) := by decide +kernel
theorem dX9_flows_147 : decode cX9_flows 147 = .ok (.getfield 7, 3) := by decide +kernel
theorem dX9_flows_150 : decode cX9_flows 150 = .ok (.iload_n 2, 1) := by decide +kernel
theorem dX9_flows_151 : decode cX9_flows 151 = .ok (.iconst 1, 1) := by decide +kernel
theorem dX9_flows_152 : decode cX9_flows 152 = .ok (.iadd, 1) := by decide +kernel
theorem dX9_flows_153 : decode cX9_flows 153 = .ok (.iaload, 1) := by decide +kernel
theorem dX9_flows_154 : decode cX9_flows 154 = .ok (.iadd, 1) := by decide +kernel
theorem dX9_flows_155 : decode cX9_flows 155 = .ok (.invokestatic 59, 3) := by decide +kernel
theorem dX9_flows_158 : decode cX9_flows 158 = .ok (.istore 6, 2) := by decide +kernel
theorem dX9_flows_160 : decode cX9_flows 160 = .ok (.goto 30, 3) := by decide +kernel
theorem dX9_flows_163 : decode cX9_flows 163 = .ok (.iload 6, 2) := by decide +kernel
theorem dX9_flows_165 : decode cX9_flows 165 = .ok (.iload 5, 2) := by decide +kernel
theorem dX9_flows_167 : decode cX9_flows 167 = .ok (.aload_n 0, 1) := by decide +kernel
theorem dX9_flows_168 : decode cX9_flows 168 = .ok (.getfield 7, 3) := by decide +kernel
theorem dX9_flows_171 : decode cX9_flows 171 = .ok (.iload_n 2, 1) := by decide +kernel
theorem dX9_flows_172 : decode cX9_flows 172 = .ok (.iconst 0, 1) := by decide +kernel
theorem dX9_flows_173 : decode cX9_flows 173 = .ok (.iadd, 1) := by decide +kernel
theorem dX9_flows_174 : decode cX9_flows 174 = .ok (.iaload, 1) := by decide +kernel
theorem dX9_flows_175 : decode cX9_flows 175 = .ok (.imul, 1) := by decide +kernel
theorem dX9_flows_176 : decode cX9_flows 176 = .ok (.iadd, 1) := by decide +kernel
theorem dX9_flows_177 : decode cX9_flows 177 = .ok (.aload_n 0, 1) := by decide +kernel
theorem dX9_flows_178 : decode cX9_flows 178 = .ok (.getfield 7, 3) := by decide +kernel
theorem dX9_flows_181 : decode cX9_flows 181 = .ok (.iload_n 2, 1) := by decide +kernel
theorem dX9_flows_182 : decode cX9_flows 182 = .ok (.iconst 1, 1) := by decide +kernel
theorem dX9_flows_183 : decode cX9_flows 183 = .ok (.iadd, 1) := by decide +kernel
theorem dX9_flows_184 : decode cX9_flows 184 = .ok (.iaload, 1) := by decide +kernel
theorem dX9_flows_185 : decode cX9_flows 185 = .ok (.invokestatic 59, 3) := by decide +kernel
theorem dX9_flows_188 : decode cX9_flows 188 = .ok (.istore 6, 2) := by decide +kernel
theorem dX9_flows_190 : decode cX9_flows 190 = .ok (.aload_n 0, 1) := by decide +kernel
theorem dX9_flows_191 : decode cX9_flows 191 = .ok (.getfield 7, 3) := by decide +kernel
theorem dX9_flows_194 : decode cX9_flows 194 = .ok (.iload_n 2, 1) := by decide +kernel
theorem dX9_flows_195 : decode cX9_flows 195 = .ok (.iconst 4, 1) := by decide +kernel
theorem dX9_flows_196 : decode cX9_flows 196 = .ok (.iadd, 1) := by decide +kernel
theorem dX9_flows_197 : decode cX9_flows 197 = .ok (.iload 6, 2) := by decide +kernel
theorem dX9_flows_199 : decode cX9_flows 199 = .ok (.ldc 30, 2) := by decide +kernel
theorem dX9_flows_201 : decode cX9_flows 201 = .ok (.if_icmp .le 8, 3) := by decide +kernel
theorem dX9_flows_204 : decode cX9_flows 204 = .ok (.ldc 30, 2) := by decide +kernel
theorem dX9_flows_206 : decode cX9_flows 206 = .ok (.goto 17, 3) := by decide +kernel
theorem dX9_flows_209 : decode cX9_flows 209 = .ok (.iload 6, 2) := by decide +kernel
theorem dX9_flows_211 : decode cX9_flows 211 = .ok (.ldc 63, 2) := by decide +kernel
theorem dX9_flows_213 : decode cX9_flows 213 = .ok (.if_icmp .ge 8, 3) := by decide +kernel
theorem dX9_flows_216 : decode cX9_flows 216 = .ok (.ldc 63, 2) := by decide +kernel
theorem dX9_flows_218 : decode cX9_flows 218 = .ok (.goto 5, 3) := by decide +kernel
theorem dX9_flows_221 : decode cX9_flows 221 = .ok (.iload 6, 2) := by decide +kernel
theorem dX9_flows_223 : decode cX9_flows 223 = .ok (.iastore, 1) := by decide +kernel
theorem dX9_flows_224 : decode cX9_flows 224 = .ok (.return_, 1) := by decide +kernel
set_option maxRecDepth 20000 in
theorem ggX9_sizeOf_X9_loadAt : GoodIn wsX9_sizeOf wsX9_loadAt := goodIn_r _ [5] (by decide +kernel) (by decide +kernel)
set_option maxRecDepth 20000 in
theorem gX9_sizeOf_X9_loadAt : GoodIn wsX9_sizeOf (va_wsS RX9 45 yX9_loadAt wsX9_loadAt) := goodIn_app (goodIn_of _ (by decide +kernel)) ggX9_sizeOf_X9_loadAt
theorem dX9_sizeOf_0 : decode cX9_sizeOf 0 = .ok (.aload_n 0, 1) := by decide +kernel
theorem dX9_sizeOf_1 : decode cX9_sizeOf 1 = .ok (.getfield 7, 3) := by decide +kernel
theorem dX9_sizeOf_4 : decode cX9_sizeOf 4 = .ok (.iload_n 1, 1) := by decide +kernel
theorem dX9_sizeOf_5 : decode cX9_sizeOf 5 = .ok (.invokestatic 45, 3) := by decide +kernel
theorem dX9_sizeOf_8 : decode cX9_sizeOf 8 = .ok (.iconst 4, 1) := by decide +kernel
theorem dX9_sizeOf_9 : decode cX9_sizeOf 9 = .ok (.iadd, 1) := by decide +kernel
theorem dX9_sizeOf_10 : decode cX9_sizeOf 10 = .ok (.iaload, 1) := by decide +kernel
theorem dX9_sizeOf_11 : decode cX9_sizeOf 11 = .ok (.istore_n 2, 1) := by decide +kernel
theorem dX9_sizeOf_12 : decode cX9_sizeOf 12 = .ok (.iload_n 2, 1) := by decide +kernel
theorem dX9_sizeOf_13 : decode cX9_sizeOf 13 = .ok (.ifCond .ge 8, 3) := by decide +kernel
theorem dX9_sizeOf_16 : decode cX9_sizeOf 16 = .ok (.iload_n 2, 1) := by decide +kernel
theorem dX9_sizeOf_17 : decode cX9_sizeOf 17 = .ok (.ineg, 1) := by decide +kernel
theorem dX9_sizeOf_18 : decode cX9_sizeOf 18 = .ok (.goto 4, 3) := by decide +kernel
theorem dX9_sizeOf_21 : decode cX9_sizeOf 21 = .ok (.iload_n 2, 1) := by decide +kernel
theorem dX9_sizeOf_22 : decode cX9_sizeOf 22 = .ok (.ireturn, 1) := by decide +kernel
set_option maxRecDepth 20000 in
theorem ggX9_heats_X9_sizeOf : GoodIn wsX9_heats wsX9_sizeOf := goodIn_r _ [8, 1, 9, 10, 7, 11, 12, 13, 14, 15, 16, 17, 18, 19, 20, 21, 22, 23, 24] (by decide +kernel) (by decide +kernel)
set_option maxRecDepth 20000 in
theorem gX9_heats_X9_sizeOf : GoodIn wsX9_heats (wsV RX9 64 RX9 yX9_sizeOf wsX9_sizeOf) := goodIn_app (goodIn_of _ (by decide +kernel)) ggX9_heats_X9_sizeOf
set_option maxRecDepth 20000 in
theorem ggX9_heats_X9_loadAt : GoodIn wsX9_heats wsX9_loadAt := goodIn_r _ [11] (by decide +kernel) (by decide +kernel)
set_option maxRecDepth 20000 in
theorem gX9_heats_X9_loadAt : GoodIn wsX9_heats (va_wsS RX9 45 yX9_loadAt wsX9_loadAt) := goodIn_app (goodIn_of _ (by decide +kernel)) ggX9_heats_X9_loadAt
theorem dX9_heats_0 : decode cX9_heats 0 = .ok (.aload_n 0, 1) := by decide +kernel
theorem dX9_heats_1 : decode cX9_heats 1 = .ok (.iload_n 1, 1) := by decide +kernel
theorem dX9_heats_2 : decode cX9_heats 2 = .ok (.invokevirtual 64, 3) := by decide +kernel
theorem dX9_heats_5 : decode cX9_heats 5 = .ok (.i2l, 1) := by decide +kernel
theorem dX9_heats_6 : decode cX9_heats 6 = .ok (.lstore_n 2, 1) := by decide +kernel
theorem dX9_heats_7 : decode cX9_heats 7 = .ok (.aload_n 0, 1) := by decide +kernel
theorem dX9_heats_8 : decode cX9_heats 8 = .ok (.getfield 7, 3) := by decide +kernel
theorem dX9_heats_11 : decode cX9_heats 11 = .ok (.iload_n 1, 1) := by decide +kernel
theorem dX9_heats_12 : decode cX9_heats 12 = .ok (.invokestatic 45, 3) := by decide +kernel
theorem dX9_heats_15 : decode cX9_heats 15 = .ok (.iconst 5, 1) := by decide +kernel
theorem dX9_heats_16 : decode cX9_heats 16 = .ok (.iadd, 1) := by decide +kernel
theorem dX9_heats_17 : decode cX9_heats 17 = .ok (.iaload, 1) := by decide +kernel
theorem dX9_heats_18 : decode cX9_heats 18 = .ok (.i2l, 1) := by decide +kernel
theorem dX9_heats_19 : decode cX9_heats 19 = .ok (.lload_n 2, 1) := by decide +kernel
theorem dX9_heats_20 : decode cX9_heats 20 = .ok (.lload_n 2, 1) := by decide +kernel
theorem dX9_heats_21 : decode cX9_heats 21 = .ok (.lmul, 1) := by decide +kernel
theorem dX9_heats_22 : decode cX9_heats 22 = .ok (.ldc2_w 67, 3) := by decide +kernel
theorem dX9_heats_25 : decode cX9_heats 25 = .ok (.ldiv, 1) := by decide +kernel
theorem dX9_heats_26 : decode cX9_heats 26 = .ok (.ladd, 1) := by decide +kernel
theorem dX9_heats_27 : decode cX9_heats 27 = .ok (.aload_n 0, 1) := by decide +kernel
theorem dX9_heats_28 : decode cX9_heats 28 = .ok (.getfield 7, 3) := by decide +kernel
theorem dX9_heats_31 : decode cX9_heats 31 = .ok (.bipush 6, 2) := by decide +kernel
theorem dX9_heats_33 : decode cX9_heats 33 = .ok (.iaload, 1) := by decide +kernel
theorem dX9_heats_34 : decode cX9_heats 34 = .ok (.i2l, 1) := by decide +kernel
theorem dX9_heats_35 : decode cX9_heats 35 = .ok (.lsub, 1) := by decide +kernel
theorem dX9_heats_36 : decode cX9_heats 36 = .ok (.lstore 4, 2) := by decide +kernel
theorem dX9_heats_38 : decode cX9_heats 38 = .ok (.lload 4, 2) := by decide +kernel
theorem dX9_heats_40 : decode cX9_heats 40 = .ok (.lconst 0, 1) := by decide +kernel
theorem dX9_heats_41 : decode cX9_heats 41 = .ok (.lcmp, 1) := by decide +kernel
theorem dX9_heats_42 : decode cX9_heats 42 = .ok (.ifCond .ge 7, 3) := by decide +kernel
theorem dX9_heats_45 : decode cX9_heats 45 = .ok (.lconst 0, 1) := by decide +kernel
theorem dX9_heats_46 : decode cX9_heats 46 = .ok (.goto 20, 3) := by decide +kernel
theorem dX9_heats_49 : decode cX9_heats 49 = .ok (.lload 4, 2) := by decide +kernel
theorem dX9_heats_51 : decode cX9_heats 51 = .ok (.ldc2_w 69, 3) := by decide +kernel
theorem dX9_heats_54 : decode cX9_heats 54 = .ok (.lcmp, 1) := by decide +kernel
theorem dX9_heats_55 : decode cX9_heats 55 = .ok (.ifCond .le 9, 3) := by decide +kernel
theorem dX9_heats_58 : decode cX9_heats 58 = .ok (.ldc2_w 69, 3) := by decide +kernel
theorem dX9_heats_61 : decode cX9_heats 61 = .ok (.goto 5, 3) := by decide +kernel
theorem dX9_heats_64 : decode cX9_heats 64 = .ok (.lload 4, 2) := by decide +kernel
theorem dX9_heats_66 : decode cX9_heats 66 = .ok (.lstore 4, 2) := by decide +kernel
theorem dX9_heats_68 : decode cX9_heats 68 = .ok (.aload_n 0, 1) := by decide +kernel
theorem dX9_heats_69 : decode cX9_heats 69 = .ok (.getfield 7, 3) := by decide +kernel
theorem dX9_heats_72 : decode cX9_heats 72 = .ok (.iload_n 1, 1) := by decide +kernel
theorem dX9_heats_73 : decode cX9_heats 73 = .ok (.invokestatic 45, 3) := by decide +kernel
theorem dX9_heats_76 : decode cX9_heats 76 = .ok (.iconst 5, 1) := by decide +kernel
theorem dX9_heats_77 : decode cX9_heats 77 = .ok (.iadd, 1) := by decide +kernel
theorem dX9_heats_78 : decode cX9_heats 78 = .ok (.lload 4, 2) := by decide +kernel
theorem dX9_heats_80 : decode cX9_heats 80 = .ok (.l2i, 1) := by decide +kernel
theorem dX9_heats_81 : decode cX9_heats 81 = .ok (.iastore, 1) := by decide +kernel
theorem dX9_heats_82 : decode cX9_heats 82 = .ok (.return_, 1) := by decide +kernel
set_option maxRecDepth 20000 in
theorem ggX9_looks_X9_loadAt : GoodIn wsX9_looks wsX9_loadAt := goodIn_r _ [5] (by decide +kernel) (by decide +kernel)
set_option maxRecDepth 20000 in
theorem gX9_looks_X9_loadAt : GoodIn wsX9_looks (va_wsS RX9 45 yX9_loadAt wsX9_loadAt) := goodIn_app (goodIn_of _ (by decide +kernel)) ggX9_looks_X9_loadAt
set_option maxRecDepth 20000 in
theorem ggX9_looks_X9_sizeOf : GoodIn wsX9_looks wsX9_sizeOf := goodIn_r _ [9, 1, 2, 3, 4, 5, 10, 11, 12, 13, 14, 15, 16, 17, 18, 19, 20, 21, 22] (by decide +kernel) (by decide +kernel)
set_option maxRecDepth 20000 in
theorem gX9_looks_X9_sizeOf : GoodIn wsX9_looks (wsV RX9 64 RX9 yX9_sizeOf wsX9_sizeOf) := goodIn_app (goodIn_of _ (by decide +kernel)) ggX9_looks_X9_sizeOf
theorem dX9_looks_0 : decode cX9_looks 0 = .ok (.iload_n 1, 1) := by decide +kernel
theorem dX9_looks_1 : decode cX9_looks 1 = .ok (.invokestatic 45, 3) := by decide +kernel
theorem dX9_looks_4 : decode cX9_looks 4 = .ok (.istore_n 2, 1) := by decide +kernel
theorem dX9_looks_5 : decode cX9_looks 5 = .ok (.aload_n 0, 1) := by decide +kernel
theorem dX9_looks_6 : decode cX9_looks 6 = .ok (.getfield 7, 3) := by decide +kernel
theorem dX9_looks_9 : decode cX9_looks 9 = .ok (.iload_n 2, 1) := by decide +kernel
theorem dX9_looks_10 : decode cX9_looks 10 = .ok (.bipush 6, 2) := by decide +kernel
theorem dX9_looks_12 : decode cX9_looks 12 = .ok (.iadd, 1) := by decide +kernel
theorem dX9_looks_13 : decode cX9_looks 13 = .ok (.iaload, 1) := by decide +kernel
theorem dX9_looks_14 : decode cX9_looks 14 = .ok (.iconst 1, 1) := by decide +kernel
theorem dX9_looks_15 : decode cX9_looks 15 = .ok (.if_icmp .ne 82, 3) := by decide +kernel
theorem dX9_looks_18 : decode cX9_looks 18 = .ok (.aload_n 0, 1) := by decide +kernel
theorem dX9_looks_19 : decode cX9_looks 19 = .ok (.getfield 7, 3) := by decide +kernel
theorem dX9_looks_22 : decode cX9_looks 22 = .ok (.iload_n 2, 1) := by decide +kernel
theorem dX9_looks_23 : decode cX9_looks 23 = .ok (.bipush 8, 2) := by decide +kernel
theorem dX9_looks_25 : decode cX9_looks 25 = .ok (.iadd, 1) := by decide +kernel
theorem dX9_looks_26 : decode cX9_looks 26 = .ok (.iaload, 1) := by decide +kernel
theorem dX9_looks_27 : decode cX9_looks 27 = .ok (.ifCond .ne 70, 3) := by decide +kernel
theorem dX9_looks_30 : decode cX9_looks 30 = .ok (.aload_n 0, 1) := by decide +kernel
theorem dX9_looks_31 : decode cX9_looks 31 = .ok (.getfield 7, 3) := by decide +kernel
theorem dX9_looks_34 : decode cX9_looks 34 = .ok (.iload_n 2, 1) := by decide +kernel
theorem dX9_looks_35 : decode cX9_looks 35 = .ok (.bipush 7, 2) := by decide +kernel
theorem dX9_looks_37 : decode cX9_looks 37 = .ok (.iadd, 1) := by decide +kernel
theorem dX9_looks_38 : decode cX9_looks 38 = .ok (.aload_n 0, 1) := by decide +kernel
theorem dX9_looks_39 : decode cX9_looks 39 = .ok (.iload_n 1, 1) := by decide +kernel
theorem dX9_looks_40 : decode cX9_looks 40 = .ok (.invokevirtual 64, 3) := by decide +kernel
theorem dX9_looks_43 : decode cX9_looks 43 = .ok (.aload_n 0, 1) := by decide +kernel
theorem dX9_looks_44 : decode cX9_looks 44 = .ok (.getfield 7, 3) := by decide +kernel
theorem dX9_looks_47 : decode cX9_looks 47 = .ok (.iload_n 2, 1) := by decide +kernel
theorem dX9_looks_48 : decode cX9_looks 48 = .ok (.iconst 2, 1) := by decide +kernel
theorem dX9_looks_49 : decode cX9_looks 49 = .ok (.iadd, 1) := by decide +kernel
theorem dX9_looks_50 : decode cX9_looks 50 = .ok (.iaload, 1) := by decide +kernel
theorem dX9_looks_51 : decode cX9_looks 51 = .ok (.if_icmp .lt 7, 3) := by decide +kernel
theorem dX9_looks_54 : decode cX9_looks 54 = .ok (.iconst 1, 1) := by decide +kernel
theorem dX9_looks_55 : decode cX9_looks 55 = .ok (.goto 41, 3) := by decide +kernel
theorem dX9_looks_58 : decode cX9_looks 58 = .ok (.aload_n 0, 1) := by decide +kernel
theorem dX9_looks_59 : decode cX9_looks 59 = .ok (.iload_n 1, 1) := by decide +kernel
theorem dX9_looks_60 : decode cX9_looks 60 = .ok (.invokevirtual 64, 3) := by decide +kernel
theorem dX9_looks_63 : decode cX9_looks 63 = .ok (.aload_n 0, 1) := by decide +kernel
theorem dX9_looks_64 : decode cX9_looks 64 = .ok (.getfield 7, 3) := by decide +kernel
theorem dX9_looks_67 : decode cX9_looks 67 = .ok (.iload_n 2, 1) := by decide +kernel
theorem dX9_looks_68 : decode cX9_looks 68 = .ok (.iconst 2, 1) := by decide +kernel
theorem dX9_looks_69 : decode cX9_looks 69 = .ok (.iadd, 1) := by decide +kernel
theorem dX9_looks_70 : decode cX9_looks 70 = .ok (.iaload, 1) := by decide +kernel
theorem dX9_looks_71 : decode cX9_looks 71 = .ok (.aload_n 0, 1) := by decide +kernel
theorem dX9_looks_72 : decode cX9_looks 72 = .ok (.getfield 7, 3) := by decide +kernel
theorem dX9_looks_75 : decode cX9_looks 75 = .ok (.iload_n 2, 1) := by decide +kernel
theorem dX9_looks_76 : decode cX9_looks 76 = .ok (.iconst 3, 1) := by decide +kernel
theorem dX9_looks_77 : decode cX9_looks 77 = .ok (.iadd, 1) := by decide +kernel
theorem dX9_looks_78 : decode cX9_looks 78 = .ok (.iaload, 1) := by decide +kernel
theorem dX9_looks_79 : decode cX9_looks 79 = .ok (.isub, 1) := by decide +kernel
theorem dX9_looks_80 : decode cX9_looks 80 = .ok (.if_icmp .gt 7, 3) := by decide +kernel
theorem dX9_looks_83 : decode cX9_looks 83 = .ok (.iconst 0, 1) := by decide +kernel
theorem dX9_looks_84 : decode cX9_looks 84 = .ok (.goto 12, 3) := by decide +kernel
theorem dX9_looks_87 : decode cX9_looks 87 = .ok (.aload_n 0, 1) := by decide +kernel
theorem dX9_looks_88 : decode cX9_looks 88 = .ok (.getfield 7, 3) := by decide +kernel
theorem dX9_looks_91 : decode cX9_looks 91 = .ok (.iload_n 2, 1) := by decide +kernel
theorem dX9_looks_92 : decode cX9_looks 92 = .ok (.bipush 7, 2) := by decide +kernel
theorem dX9_looks_94 : decode cX9_looks 94 = .ok (.iadd, 1) := by decide +kernel
theorem dX9_looks_95 : decode cX9_looks 95 = .ok (.iaload, 1) := by decide +kernel
theorem dX9_looks_96 : decode cX9_looks 96 = .ok (.iastore, 1) := by decide +kernel
theorem dX9_looks_97 : decode cX9_looks 97 = .ok (.return_, 1) := by decide +kernel
set_option maxRecDepth 20000 in
theorem ggX9_isSeen_X9_loadAt : GoodIn wsX9_isSeen wsX9_loadAt := goodIn_r _ [5] (by decide +kernel) (by decide +kernel)
set_option maxRecDepth 20000 in
theorem gX9_isSeen_X9_loadAt : GoodIn wsX9_isSeen (va_wsS RX9 45 yX9_loadAt wsX9_loadAt) := goodIn_app (goodIn_of _ (by decide +kernel)) ggX9_isSeen_X9_loadAt
set_option maxRecDepth 20000 in
theorem ggX9_isSeen_X9_sizeOf : GoodIn wsX9_isSeen wsX9_sizeOf := goodIn_r _ [9, 1, 2, 3, 4, 5, 10, 11, 12, 13, 14, 15, 16, 17, 18, 19, 20, 21, 22] (by decide +kernel) (by decide +kernel)
set_option maxRecDepth 20000 in
theorem gX9_isSeen_X9_sizeOf : GoodIn wsX9_isSeen (wsV RX9 64 RX9 yX9_sizeOf wsX9_sizeOf) := goodIn_app (goodIn_of _ (by decide +kernel)) ggX9_isSeen_X9_sizeOf
theorem dX9_isSeen_0 : decode cX9_isSeen 0 = .ok (.iload_n 1, 1) := by decide +kernel
theorem dX9_isSeen_1 : decode cX9_isSeen 1 = .ok (.invokestatic 45, 3) := by decide +kernel
theorem dX9_isSeen_4 : decode cX9_isSeen 4 = .ok (.istore_n 3, 1) := by decide +kernel
theorem dX9_isSeen_5 : decode cX9_isSeen 5 = .ok (.iload_n 2, 1) := by decide +kernel
theorem dX9_isSeen_6 : decode cX9_isSeen 6 = .ok (.lookupswitch 98 #[(0, 26), (1, 58)], 26) := by decide +kernel
theorem dX9_isSeen_32 : decode cX9_isSeen 32 = .ok (.aload_n 0, 1) := by decide +kernel
theorem dX9_isSeen_33 : decode cX9_isSeen 33 = .ok (.getfield 7, 3) := by decide +kernel
theorem dX9_isSeen_36 : decode cX9_isSeen 36 = .ok (.iload_n 3, 1) := by decide +kernel
theorem dX9_isSeen_37 : decode cX9_isSeen 37 = .ok (.bipush 8, 2) := by decide +kernel
theorem dX9_isSeen_39 : decode cX9_isSeen 39 = .ok (.iadd, 1) := by decide +kernel
theorem dX9_isSeen_40 : decode cX9_isSeen 40 = .ok (.iaload, 1) := by decide +kernel
theorem dX9_isSeen_41 : decode cX9_isSeen 41 = .ok (.ifCond .ne 21, 3) := by decide +kernel
theorem dX9_isSeen_44 : decode cX9_isSeen 44 = .ok (.aload_n 0, 1) := by decide +kernel
theorem dX9_isSeen_45 : decode cX9_isSeen 45 = .ok (.iload_n 1, 1) := by decide +kernel
theorem dX9_isSeen_46 : decode cX9_isSeen 46 = .ok (.invokevirtual 64, 3) := by decide +kernel
theorem dX9_isSeen_49 : decode cX9_isSeen 49 = .ok (.aload_n 0, 1) := by decide +kernel
theorem dX9_isSeen_50 : decode cX9_isSeen 50 = .ok (.getfield 7, 3) := by decide +kernel
theorem dX9_isSeen_53 : decode cX9_isSeen 53 = .ok (.iconst 3, 1) := by decide +kernel
theorem dX9_isSeen_54 : decode cX9_isSeen 54 = .ok (.iaload, 1) := by decide +kernel
theorem dX9_isSeen_55 : decode cX9_isSeen 55 = .ok (.if_icmp .lt 7, 3) := by decide +kernel
theorem dX9_isSeen_58 : decode cX9_isSeen 58 = .ok (.iconst 1, 1) := by decide +kernel
theorem dX9_isSeen_59 : decode cX9_isSeen 59 = .ok (.goto 4, 3) := by decide +kernel
theorem dX9_isSeen_62 : decode cX9_isSeen 62 = .ok (.iconst 0, 1) := by decide +kernel
theorem dX9_isSeen_63 : decode cX9_isSeen 63 = .ok (.ireturn, 1) := by decide +kernel
theorem dX9_isSeen_64 : decode cX9_isSeen 64 = .ok (.aload_n 0, 1) := by decide +kernel
theorem dX9_isSeen_65 : decode cX9_isSeen 65 = .ok (.getfield 7, 3) := by decide +kernel
theorem dX9_isSeen_68 : decode cX9_isSeen 68 = .ok (.iload_n 3, 1) := by decide +kernel
theorem dX9_isSeen_69 : decode cX9_isSeen 69 = .ok (.bipush 10, 2) := by decide +kernel
theorem dX9_isSeen_71 : decode cX9_isSeen 71 = .ok (.iadd, 1) := by decide +kernel
theorem dX9_isSeen_72 : decode cX9_isSeen 72 = .ok (.iaload, 1) := by decide +kernel
theorem dX9_isSeen_73 : decode cX9_isSeen 73 = .ok (.aload_n 0, 1) := by decide +kernel
theorem dX9_isSeen_74 : decode cX9_isSeen 74 = .ok (.getfield 7, 3) := by decide +kernel
theorem dX9_isSeen_77 : decode cX9_isSeen 77 = .ok (.iconst 4, 1) := by decide +kernel
theorem dX9_isSeen_78 : decode cX9_isSeen 78 = .ok (.iaload, 1) := by decide +kernel
theorem dX9_isSeen_79 : decode cX9_isSeen 79 = .ok (.if_icmp .lt 23, 3) := by decide +kernel
theorem dX9_isSeen_82 : decode cX9_isSeen 82 = .ok (.aload_n 0, 1) := by decide +kernel
theorem dX9_isSeen_83 : decode cX9_isSeen 83 = .ok (.iload_n 1, 1) := by decide +kernel
theorem dX9_isSeen_84 : decode cX9_isSeen 84 = .ok (.invokevirtual 64, 3) := by decide +kernel
theorem dX9_isSeen_87 : decode cX9_isSeen 87 = .ok (.aload_n 0, 1) := by decide +kernel
theorem dX9_isSeen_88 : decode cX9_isSeen 88 = .ok (.getfield 7, 3) := by decide +kernel
theorem dX9_isSeen_91 : decode cX9_isSeen 91 = .ok (.iload_n 3, 1) := by decide +kernel
theorem dX9_isSeen_92 : decode cX9_isSeen 92 = .ok (.iconst 0, 1) := by decide +kernel
theorem dX9_isSeen_93 : decode cX9_isSeen 93 = .ok (.iadd, 1) := by decide +kernel
theorem dX9_isSeen_94 : decode cX9_isSeen 94 = .ok (.iaload, 1) := by decide +kernel
theorem dX9_isSeen_95 : decode cX9_isSeen 95 = .ok (.if_icmp .ge 7, 3) := by decide +kernel
theorem dX9_isSeen_98 : decode cX9_isSeen 98 = .ok (.iconst 1, 1) := by decide +kernel
theorem dX9_isSeen_99 : decode cX9_isSeen 99 = .ok (.goto 4, 3) := by decide +kernel
theorem dX9_isSeen_102 : decode cX9_isSeen 102 = .ok (.iconst 0, 1) := by decide +kernel
theorem dX9_isSeen_103 : decode cX9_isSeen 103 = .ok (.ireturn, 1) := by decide +kernel
theorem dX9_isSeen_104 : decode cX9_isSeen 104 = .ok (.aload_n 0, 1) := by decide +kernel
theorem dX9_isSeen_105 : decode cX9_isSeen 105 = .ok (.getfield 7, 3) := by decide +kernel
theorem dX9_isSeen_108 : decode cX9_isSeen 108 = .ok (.iload_n 3, 1) := by decide +kernel
theorem dX9_isSeen_109 : decode cX9_isSeen 109 = .ok (.iconst 5, 1) := by decide +kernel
theorem dX9_isSeen_110 : decode cX9_isSeen 110 = .ok (.iadd, 1) := by decide +kernel
theorem dX9_isSeen_111 : decode cX9_isSeen 111 = .ok (.iaload, 1) := by decide +kernel
theorem dX9_isSeen_112 : decode cX9_isSeen 112 = .ok (.aload_n 0, 1) := by decide +kernel
theorem dX9_isSeen_113 : decode cX9_isSeen 113 = .ok (.getfield 7, 3) := by decide +kernel
theorem dX9_isSeen_116 : decode cX9_isSeen 116 = .ok (.iconst 5, 1) := by decide +kernel
theorem dX9_isSeen_117 : decode cX9_isSeen 117 = .ok (.iaload, 1) := by decide +kernel
theorem dX9_isSeen_118 : decode cX9_isSeen 118 = .ok (.if_icmp .lt 7, 3) := by decide +kernel
theorem dX9_isSeen_121 : decode cX9_isSeen 121 = .ok (.iconst 1, 1) := by decide +kernel
theorem dX9_isSeen_122 : decode cX9_isSeen 122 = .ok (.goto 4, 3) := by decide +kernel
theorem dX9_isSeen_125 : decode cX9_isSeen 125 = .ok (.iconst 0, 1) := by decide +kernel
theorem dX9_isSeen_126 : decode cX9_isSeen 126 = .ok (.ireturn, 1) := by decide +kernel
set_option maxRecDepth 20000 in
theorem ggX9_latches_X9_loadAt : GoodIn wsX9_latches wsX9_loadAt := goodIn_r _ [5] (by decide +kernel) (by decide +kernel)
set_option maxRecDepth 20000 in
theorem gX9_latches_X9_loadAt : GoodIn wsX9_latches (va_wsS RX9 45 yX9_loadAt wsX9_loadAt) := goodIn_app (goodIn_of _ (by decide +kernel)) ggX9_latches_X9_loadAt
set_option maxRecDepth 20000 in
theorem ggX9_latches_X9_isLatched : GoodIn wsX9_latches wsX9_isLatched := goodIn_r _ [9, 1, 2, 3, 4, 5, 18, 19, 20, 21, 22, 23, 24, 25, 26, 27, 28, 29, 30] (by decide +kernel) (by decide +kernel)
set_option maxRecDepth 20000 in
theorem gX9_latches_X9_isLatched : GoodIn wsX9_latches (wsV RX9 49 RX9 yX9_isLatched wsX9_isLatched) := goodIn_app (goodIn_of _ (by decide +kernel)) ggX9_latches_X9_isLatched
set_option maxRecDepth 20000 in
theorem ggX9_latches_X9_isSeen : GoodIn wsX9_latches wsX9_isSeen := goodIn_r _ [13, 1, 2, 3, 4, 5, 14, 15, 16, 17, 18, 19, 20, 21, 22, 23, 24, 25, 26, 27, 28, 29, 30] (by decide +kernel) (by decide +kernel)
set_option maxRecDepth 20000 in
theorem gX9_latches_X9_isSeen : GoodIn wsX9_latches (wsV RX9 71 RX9 yX9_isSeen wsX9_isSeen) := goodIn_app (goodIn_of _ (by decide +kernel)) ggX9_latches_X9_isSeen
theorem dX9_latches_0 : decode cX9_latches 0 = .ok (.iload_n 1, 1) := by decide +kernel
theorem dX9_latches_1 : decode cX9_latches 1 = .ok (.invokestatic 45, 3) := by decide +kernel
theorem dX9_latches_4 : decode cX9_latches 4 = .ok (.istore_n 2, 1) := by decide +kernel
theorem dX9_latches_5 : decode cX9_latches 5 = .ok (.iconst 0, 1) := by decide +kernel
theorem dX9_latches_6 : decode cX9_latches 6 = .ok (.istore_n 3, 1) := by decide +kernel
theorem dX9_latches_7 : decode cX9_latches 7 = .ok (.iconst 0, 1) := by decide +kernel
theorem dX9_latches_8 : decode cX9_latches 8 = .ok (.istore 4, 2) := by decide +kernel
theorem dX9_latches_10 : decode cX9_latches 10 = .ok (.iload 4, 2) := by decide +kernel
theorem dX9_latches_12 : decode cX9_latches 12 = .ok (.iconst 3, 1) := by decide +kernel
theorem dX9_latches_13 : decode cX9_latches 13 = .ok (.if_icmp .ge 114, 3) := by decide +kernel
theorem dX9_latches_16 : decode cX9_latches 16 = .ok (.aload_n 0, 1) := by decide +kernel
theorem dX9_latches_17 : decode cX9_latches 17 = .ok (.iload_n 1, 1) := by decide +kernel
theorem dX9_latches_18 : decode cX9_latches 18 = .ok (.iload 4, 2) := by decide +kernel
theorem dX9_latches_20 : decode cX9_latches 20 = .ok (.invokevirtual 49, 3) := by decide +kernel
theorem dX9_latches_23 : decode cX9_latches 23 = .ok (.ifCond .ne 98, 3) := by decide +kernel
theorem dX9_latches_26 : decode cX9_latches 26 = .ok (.aload_n 0, 1) := by decide +kernel
theorem dX9_latches_27 : decode cX9_latches 27 = .ok (.iload_n 1, 1) := by decide +kernel
theorem dX9_latches_28 : decode cX9_latches 28 = .ok (.iload 4, 2) := by decide +kernel
theorem dX9_latches_30 : decode cX9_latches 30 = .ok (.invokevirtual 71, 3) := by decide +kernel
theorem dX9_latches_33 : decode cX9_latches 33 = .ok (.ifCond .eq 88, 3) := by decide +kernel
theorem dX9_latches_36 : decode cX9_latches 36 = .ok (.aload_n 0, 1) := by decide +kernel
theorem dX9_latches_37 : decode cX9_latches 37 = .ok (.getfield 7, 3) := by decide +kernel
theorem dX9_latches_40 : decode cX9_latches 40 = .ok (.iload_n 2, 1) := by decide +kernel
theorem dX9_latches_41 : decode cX9_latches 41 = .ok (.bipush 12, 2) := by decide +kernel
theorem dX9_latches_43 : decode cX9_latches 43 = .ok (.iadd, 1) := by decide +kernel
theorem dX9_latches_44 : decode cX9_latches 44 = .ok (.iconst 3, 1) := by decide +kernel
theorem dX9_latches_45 : decode cX9_latches 45 = .ok (.iload 4, 2) := by decide +kernel
theorem dX9_latches_47 : decode cX9_latches 47 = .ok (.imul, 1) := by decide +kernel
theorem dX9_latches_48 : decode cX9_latches 48 = .ok (.iadd, 1) := by decide +kernel
theorem dX9_latches_49 : decode cX9_latches 49 = .ok (.aload_n 0, 1) := by decide +kernel
theorem dX9_latches_50 : decode cX9_latches 50 = .ok (.getfield 7, 3) := by decide +kernel
theorem dX9_latches_53 : decode cX9_latches 53 = .ok (.iconst 0, 1) := by decide +kernel
theorem dX9_latches_54 : decode cX9_latches 54 = .ok (.iaload, 1) := by decide +kernel
theorem dX9_latches_55 : decode cX9_latches 55 = .ok (.iastore, 1) := by decide +kernel
theorem dX9_latches_56 : decode cX9_latches 56 = .ok (.aload_n 0, 1) := by decide +kernel
theorem dX9_latches_57 : decode cX9_latches 57 = .ok (.getfield 7, 3) := by decide +kernel
theorem dX9_latches_60 : decode cX9_latches 60 = .ok (.iload_n 2, 1) := by decide +kernel
theorem dX9_latches_61 : decode cX9_latches 61 = .ok (.bipush 12, 2) := by decide +kernel
theorem dX9_latches_63 : decode cX9_latches 63 = .ok (.iadd, 1) := by decide +kernel
theorem dX9_latches_64 : decode cX9_latches 64 = .ok (.iconst 3, 1) := by decide +kernel
theorem dX9_latches_65 : decode cX9_latches 65 = .ok (.iload 4, 2) := by decide +kernel
theorem dX9_latches_67 : decode cX9_latches 67 = .ok (.imul, 1) := by decide +kernel
theorem dX9_latches_68 : decode cX9_latches 68 = .ok (.iadd, 1) := by decide +kernel
theorem dX9_latches_69 : decode cX9_latches 69 = .ok (.iconst 1, 1) := by decide +kernel
theorem dX9_latches_70 : decode cX9_latches 70 = .ok (.iadd, 1) := by decide +kernel
theorem dX9_latches_71 : decode cX9_latches 71 = .ok (.aload_n 0, 1) := by decide +kernel
theorem dX9_latches_72 : decode cX9_latches 72 = .ok (.getfield 7, 3) := by decide +kernel
theorem dX9_latches_75 : decode cX9_latches 75 = .ok (.iload_n 2, 1) := by decide +kernel
theorem dX9_latches_76 : decode cX9_latches 76 = .ok (.iconst 4, 1) := by decide +kernel
theorem dX9_latches_77 : decode cX9_latches 77 = .ok (.iadd, 1) := by decide +kernel
theorem dX9_latches_78 : decode cX9_latches 78 = .ok (.iaload, 1) := by decide +kernel
theorem dX9_latches_79 : decode cX9_latches 79 = .ok (.iastore, 1) := by decide +kernel
theorem dX9_latches_80 : decode cX9_latches 80 = .ok (.aload_n 0, 1) := by decide +kernel
theorem dX9_latches_81 : decode cX9_latches 81 = .ok (.getfield 7, 3) := by decide +kernel
theorem dX9_latches_84 : decode cX9_latches 84 = .ok (.iload_n 2, 1) := by decide +kernel
theorem dX9_latches_85 : decode cX9_latches 85 = .ok (.bipush 12, 2) := by decide +kernel
theorem dX9_latches_87 : decode cX9_latches 87 = .ok (.iadd, 1) := by decide +kernel
theorem dX9_latches_88 : decode cX9_latches 88 = .ok (.iconst 3, 1) := by decide +kernel
theorem dX9_latches_89 : decode cX9_latches 89 = .ok (.iload 4, 2) := by decide +kernel
theorem dX9_latches_91 : decode cX9_latches 91 = .ok (.imul, 1) := by decide +kernel
theorem dX9_latches_92 : decode cX9_latches 92 = .ok (.iadd, 1) := by decide +kernel
theorem dX9_latches_93 : decode cX9_latches 93 = .ok (.iconst 2, 1) := by decide +kernel
theorem dX9_latches_94 : decode cX9_latches 94 = .ok (.iadd, 1) := by decide +kernel
theorem dX9_latches_95 : decode cX9_latches 95 = .ok (.aload_n 0, 1) := by decide +kernel
theorem dX9_latches_96 : decode cX9_latches 96 = .ok (.getfield 7, 3) := by decide +kernel
theorem dX9_latches_99 : decode cX9_latches 99 = .ok (.iload_n 2, 1) := by decide +kernel
theorem dX9_latches_100 : decode cX9_latches 100 = .ok (.bipush 21, 2) := by decide +kernel
theorem dX9_latches_102 : decode cX9_latches 102 = .ok (.iadd, 1) := by decide +kernel
theorem dX9_latches_103 : decode cX9_latches 103 = .ok (.iaload, 1) := by decide +kernel
theorem dX9_latches_104 : decode cX9_latches 104 = .ok (.iastore, 1) := by decide +kernel
theorem dX9_latches_105 : decode cX9_latches 105 = .ok (.aload_n 0, 1) := by decide +kernel
theorem dX9_latches_106 : decode cX9_latches 106 = .ok (.getfield 7, 3) := by decide +kernel
theorem dX9_latches_109 : decode cX9_latches 109 = .ok (.iload_n 2, 1) := by decide +kernel
theorem dX9_latches_110 : decode cX9_latches 110 = .ok (.bipush 21, 2) := by decide +kernel
theorem dX9_latches_112 : decode cX9_latches 112 = .ok (.iadd, 1) := by decide +kernel
theorem dX9_latches_113 : decode cX9_latches 113 = .ok (.dup2, 1) := by decide +kernel
theorem dX9_latches_114 : decode cX9_latches 114 = .ok (.iaload, 1) := by decide +kernel
theorem dX9_latches_115 : decode cX9_latches 115 = .ok (.iconst 1, 1) := by decide +kernel
theorem dX9_latches_116 : decode cX9_latches 116 = .ok (.iadd, 1) := by decide +kernel
theorem dX9_latches_117 : decode cX9_latches 117 = .ok (.iastore, 1) := by decide +kernel
theorem dX9_latches_118 : decode cX9_latches 118 = .ok (.iinc 3 1, 3) := by decide +kernel
theorem dX9_latches_121 : decode cX9_latches 121 = .ok (.iinc 4 1, 3) := by decide +kernel
theorem dX9_latches_124 : decode cX9_latches 124 = .ok (.goto (-114), 3) := by decide +kernel
theorem dX9_latches_127 : decode cX9_latches 127 = .ok (.iload_n 3, 1) := by decide +kernel
theorem dX9_latches_128 : decode cX9_latches 128 = .ok (.ireturn, 1) := by decide +kernel
set_option maxRecDepth 20000 in
theorem ggX9_keepsSlot_X9_loadAt : GoodIn wsX9_keepsSlot wsX9_loadAt := goodIn_r _ [5] (by decide +kernel) (by decide +kernel)
set_option maxRecDepth 20000 in
theorem gX9_keepsSlot_X9_loadAt : GoodIn wsX9_keepsSlot (va_wsS RX9 45 yX9_loadAt wsX9_loadAt) := goodIn_app (goodIn_of _ (by decide +kernel)) ggX9_keepsSlot_X9_loadAt
set_option maxRecDepth 20000 in
theorem ggX9_keepsSlot_X9_legAt : GoodIn wsX9_keepsSlot wsX9_legAt := goodIn_r _ [8] (by decide +kernel) (by decide +kernel)
set_option maxRecDepth 20000 in
theorem gX9_keepsSlot_X9_legAt : GoodIn wsX9_keepsSlot (va_wsS RX9 56 yX9_legAt wsX9_legAt) := goodIn_app (goodIn_of _ (by decide +kernel)) ggX9_keepsSlot_X9_legAt
theorem dX9_keepsSlot_0 : decode cX9_keepsSlot 0 = .ok (.aload_n 0, 1) := by decide +kernel
theorem dX9_keepsSlot_1 : decode cX9_keepsSlot 1 = .ok (.getfield 7, 3) := by decide +kernel
theorem dX9_keepsSlot_4 : decode cX9_keepsSlot 4 = .ok (.bipush 102, 2) := by decide +kernel
theorem dX9_keepsSlot_6 : decode cX9_keepsSlot 6 = .ok (.iaload, 1) := by decide +kernel
theorem dX9_keepsSlot_7 : decode cX9_keepsSlot 7 = .ok (.bipush 32, 2) := by decide +kernel
theorem dX9_keepsSlot_9 : decode cX9_keepsSlot 9 = .ok (.if_icmp .ge 14, 3) := by decide +kernel
theorem dX9_keepsSlot_12 : decode cX9_keepsSlot 12 = .ok (.aload_n 0, 1) := by decide +kernel
theorem dX9_keepsSlot_13 : decode cX9_keepsSlot 13 = .ok (.getfield 7, 3) := by decide +kernel
theorem dX9_keepsSlot_16 : decode cX9_keepsSlot 16 = .ok (.bipush 102, 2) := by decide +kernel
theorem dX9_keepsSlot_18 : decode cX9_keepsSlot 18 = .ok (.dup2, 1) := by decide +kernel
theorem dX9_keepsSlot_19 : decode cX9_keepsSlot 19 = .ok (.iaload, 1) := by decide +kernel
theorem dX9_keepsSlot_20 : decode cX9_keepsSlot 20 = .ok (.iconst 1, 1) := by decide +kernel
theorem dX9_keepsSlot_21 : decode cX9_keepsSlot 21 = .ok (.iadd, 1) := by decide +kernel
theorem dX9_keepsSlot_22 : decode cX9_keepsSlot 22 = .ok (.iastore, 1) := by decide +kernel
theorem dX9_keepsSlot_23 : decode cX9_keepsSlot 23 = .ok (.sipush 159, 3) := by decide +kernel
theorem dX9_keepsSlot_26 : decode cX9_keepsSlot 26 = .ok (.istore_n 1, 1) := by decide +kernel
theorem dX9_keepsSlot_27 : decode cX9_keepsSlot 27 = .ok (.iload_n 1, 1) := by decide +kernel
theorem dX9_keepsSlot_28 : decode cX9_keepsSlot 28 = .ok (.iconst 5, 1) := by decide +kernel
theorem dX9_keepsSlot_29 : decode cX9_keepsSlot 29 = .ok (.if_icmp .lt 29, 3) := by decide +kernel
theorem dX9_keepsSlot_32 : decode cX9_keepsSlot 32 = .ok (.aload_n 0, 1) := by decide +kernel
theorem dX9_keepsSlot_33 : decode cX9_keepsSlot 33 = .ok (.getfield 7, 3) := by decide +kernel
theorem dX9_keepsSlot_36 : decode cX9_keepsSlot 36 = .ok (.bipush 110, 2) := by decide +kernel
theorem dX9_keepsSlot_38 : decode cX9_keepsSlot 38 = .ok (.iload_n 1, 1) := by decide +kernel
theorem dX9_keepsSlot_39 : decode cX9_keepsSlot 39 = .ok (.iadd, 1) := by decide +kernel
theorem dX9_keepsSlot_40 : decode cX9_keepsSlot 40 = .ok (.aload_n 0, 1) := by decide +kernel
theorem dX9_keepsSlot_41 : decode cX9_keepsSlot 41 = .ok (.getfield 7, 3) := by decide +kernel
theorem dX9_keepsSlot_44 : decode cX9_keepsSlot 44 = .ok (.bipush 110, 2) := by decide +kernel
theorem dX9_keepsSlot_46 : decode cX9_keepsSlot 46 = .ok (.iload_n 1, 1) := by decide +kernel
theorem dX9_keepsSlot_47 : decode cX9_keepsSlot 47 = .ok (.iadd, 1) := by decide +kernel
theorem dX9_keepsSlot_48 : decode cX9_keepsSlot 48 = .ok (.iconst 5, 1) := by decide +kernel
theorem dX9_keepsSlot_49 : decode cX9_keepsSlot 49 = .ok (.isub, 1) := by decide +kernel
theorem dX9_keepsSlot_50 : decode cX9_keepsSlot 50 = .ok (.iaload, 1) := by decide +kernel
theorem dX9_keepsSlot_51 : decode cX9_keepsSlot 51 = .ok (.iastore, 1) := by decide +kernel
theorem dX9_keepsSlot_52 : decode cX9_keepsSlot 52 = .ok (.iinc 1 (-1), 3) := by decide +kernel
theorem dX9_keepsSlot_55 : decode cX9_keepsSlot 55 = .ok (.goto (-28), 3) := by decide +kernel
theorem dX9_keepsSlot_58 : decode cX9_keepsSlot 58 = .ok (.aload_n 0, 1) := by decide +kernel
theorem dX9_keepsSlot_59 : decode cX9_keepsSlot 59 = .ok (.getfield 7, 3) := by decide +kernel
theorem dX9_keepsSlot_62 : decode cX9_keepsSlot 62 = .ok (.bipush 110, 2) := by decide +kernel
theorem dX9_keepsSlot_64 : decode cX9_keepsSlot 64 = .ok (.aload_n 0, 1) := by decide +kernel
theorem dX9_keepsSlot_65 : decode cX9_keepsSlot 65 = .ok (.getfield 7, 3) := by decide +kernel
theorem dX9_keepsSlot_68 : decode cX9_keepsSlot 68 = .ok (.iconst 0, 1) := by decide +kernel
theorem dX9_keepsSlot_69 : decode cX9_keepsSlot 69 = .ok (.iaload, 1) := by decide +kernel
theorem dX9_keepsSlot_70 : decode cX9_keepsSlot 70 = .ok (.iastore, 1) := by decide +kernel
theorem dX9_keepsSlot_71 : decode cX9_keepsSlot 71 = .ok (.aload_n 0, 1) := by decide +kernel
theorem dX9_keepsSlot_72 : decode cX9_keepsSlot 72 = .ok (.getfield 7, 3) := by decide +kernel
theorem dX9_keepsSlot_75 : decode cX9_keepsSlot 75 = .ok (.bipush 111, 2) := by decide +kernel
theorem dX9_keepsSlot_77 : decode cX9_keepsSlot 77 = .ok (.aload_n 0, 1) := by decide +kernel
theorem dX9_keepsSlot_78 : decode cX9_keepsSlot 78 = .ok (.getfield 7, 3) := by decide +kernel
theorem dX9_keepsSlot_81 : decode cX9_keepsSlot 81 = .ok (.iconst 0, 1) := by decide +kernel
theorem dX9_keepsSlot_82 : decode cX9_keepsSlot 82 = .ok (.invokestatic 45, 3) := by decide +kernel
theorem dX9_keepsSlot_85 : decode cX9_keepsSlot 85 = .ok (.iconst 4, 1) := by decide +kernel
theorem dX9_keepsSlot_86 : decode cX9_keepsSlot 86 = .ok (.iadd, 1) := by decide +kernel
theorem dX9_keepsSlot_87 : decode cX9_keepsSlot 87 = .ok (.iaload, 1) := by decide +kernel
theorem dX9_keepsSlot_88 : decode cX9_keepsSlot 88 = .ok (.iastore, 1) := by decide +kernel
theorem dX9_keepsSlot_89 : decode cX9_keepsSlot 89 = .ok (.aload_n 0, 1) := by decide +kernel
theorem dX9_keepsSlot_90 : decode cX9_keepsSlot 90 = .ok (.getfield 7, 3) := by decide +kernel
theorem dX9_keepsSlot_93 : decode cX9_keepsSlot 93 = .ok (.bipush 112, 2) := by decide +kernel
theorem dX9_keepsSlot_95 : decode cX9_keepsSlot 95 = .ok (.aload_n 0, 1) := by decide +kernel
theorem dX9_keepsSlot_96 : decode cX9_keepsSlot 96 = .ok (.getfield 7, 3) := by decide +kernel
theorem dX9_keepsSlot_99 : decode cX9_keepsSlot 99 = .ok (.iconst 1, 1) := by decide +kernel
theorem dX9_keepsSlot_100 : decode cX9_keepsSlot 100 = .ok (.invokestatic 45, 3) := by decide +kernel
theorem dX9_keepsSlot_103 : decode cX9_keepsSlot 103 = .ok (.iconst 4, 1) := by decide +kernel
theorem dX9_keepsSlot_104 : decode cX9_keepsSlot 104 = .ok (.iadd, 1) := by decide +kernel
theorem dX9_keepsSlot_105 : decode cX9_keepsSlot 105 = .ok (.iaload, 1) := by decide +kernel
theorem dX9_keepsSlot_106 : decode cX9_keepsSlot 106 = .ok (.iastore, 1) := by decide +kernel
theorem dX9_keepsSlot_107 : decode cX9_keepsSlot 107 = .ok (.aload_n 0, 1) := by decide +kernel
theorem dX9_keepsSlot_108 : decode cX9_keepsSlot 108 = .ok (.getfield 7, 3) := by decide +kernel
theorem dX9_keepsSlot_111 : decode cX9_keepsSlot 111 = .ok (.bipush 113, 2) := by decide +kernel
theorem dX9_keepsSlot_113 : decode cX9_keepsSlot 113 = .ok (.aload_n 0, 1) := by decide +kernel
theorem dX9_keepsSlot_114 : decode cX9_keepsSlot 114 = .ok (.getfield 7, 3) := by decide +kernel
theorem dX9_keepsSlot_117 : decode cX9_keepsSlot 117 = .ok (.iconst 0, 1) := by decide +kernel
theorem dX9_keepsSlot_118 : decode cX9_keepsSlot 118 = .ok (.invokestatic 56, 3) := by decide +kernel
theorem dX9_keepsSlot_121 : decode cX9_keepsSlot 121 = .ok (.iconst 1, 1) := by decide +kernel
theorem dX9_keepsSlot_122 : decode cX9_keepsSlot 122 = .ok (.iadd, 1) := by decide +kernel
theorem dX9_keepsSlot_123 : decode cX9_keepsSlot 123 = .ok (.iaload, 1) := by decide +kernel
theorem dX9_keepsSlot_124 : decode cX9_keepsSlot 124 = .ok (.iconst 3, 1) := by decide +kernel
theorem dX9_keepsSlot_125 : decode cX9_keepsSlot 125 = .ok (.aload_n 0, 1) := by decide +kernel
theorem dX9_keepsSlot_126 : decode cX9_keepsSlot 126 = .ok (.getfield 7, 3) := by decide +kernel
theorem dX9_keepsSlot_129 : decode cX9_keepsSlot 129 = .ok (.iconst 1, 1) := by decide +kernel
theorem dX9_keepsSlot_130 : decode cX9_keepsSlot 130 = .ok (.invokestatic 56, 3) := by decide +kernel
theorem dX9_keepsSlot_133 : decode cX9_keepsSlot 133 = .ok (.iconst 1, 1) := by decide +kernel
theorem dX9_keepsSlot_134 : decode cX9_keepsSlot 134 = .ok (.iadd, 1) := by decide +kernel
theorem dX9_keepsSlot_135 : decode cX9_keepsSlot 135 = .ok (.iaload, 1) := by decide +kernel
theorem dX9_keepsSlot_136 : decode cX9_keepsSlot 136 = .ok (.imul, 1) := by decide +kernel
theorem dX9_keepsSlot_137 : decode cX9_keepsSlot 137 = .ok (.iadd, 1) := by decide +kernel
theorem dX9_keepsSlot_138 : decode cX9_keepsSlot 138 = .ok (.bipush 9, 2) := by decide +kernel
theorem dX9_keepsSlot_140 : decode cX9_keepsSlot 140 = .ok (.aload_n 0, 1) := by decide +kernel
theorem dX9_keepsSlot_141 : decode cX9_keepsSlot 141 = .ok (.getfield 7, 3) := by decide +kernel
theorem dX9_keepsSlot_144 : decode cX9_keepsSlot 144 = .ok (.iconst 2, 1) := by decide +kernel
theorem dX9_keepsSlot_145 : decode cX9_keepsSlot 145 = .ok (.invokestatic 56, 3) := by decide +kernel
theorem dX9_keepsSlot_148 : decode cX9_keepsSlot 148 = .ok (.iconst 1, 1) := by decide +kernel
theorem dX9_keepsSlot_149 : decode cX9_keepsSlot 149 = .ok (.iadd, 1) := by decide +kernel
theorem dX9_keepsSlot_150 : decode cX9_keepsSlot 150 = .ok (.iaload, 1) := by decide +kernel
theorem dX9_keepsSlot_151 : decode cX9_keepsSlot 151 = .ok (.imul, 1) := by decide +kernel
theorem dX9_keepsSlot_152 : decode cX9_keepsSlot 152 = .ok (.iadd, 1) := by decide +kernel
theorem dX9_keepsSlot_153 : decode cX9_keepsSlot 153 = .ok (.bipush 27, 2) := by decide +kernel
theorem dX9_keepsSlot_155 : decode cX9_keepsSlot 155 = .ok (.aload_n 0, 1) := by decide +kernel
theorem dX9_keepsSlot_156 : decode cX9_keepsSlot 156 = .ok (.getfield 7, 3) := by decide +kernel
theorem dX9_keepsSlot_159 : decode cX9_keepsSlot 159 = .ok (.iconst 3, 1) := by decide +kernel
theorem dX9_keepsSlot_160 : decode cX9_keepsSlot 160 = .ok (.invokestatic 56, 3) := by decide +kernel

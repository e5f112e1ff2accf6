theorem dX9_keepsSlot_163 : decode cX9_keepsSlot 163 = .ok (.iconst 1, 1) := by decide +kernel
theorem dX9_keepsSlot_164 : decode cX9_keepsSlot 164 = .ok (.iadd, 1) := by decide +kernel
theorem dX9_keepsSlot_165 : decode cX9_keepsSlot 165 = .ok (.iaload, 1) := by decide +kernel
theorem dX9_keepsSlot_166 : decode cX9_keepsSlot 166 = .ok (.imul, 1) := by decide +kernel
theorem dX9_keepsSlot_167 : decode cX9_keepsSlot 167 = .ok (.iadd, 1) := by decide +kernel
theorem dX9_keepsSlot_168 : decode cX9_keepsSlot 168 = .ok (.iastore, 1) := by decide +kernel
theorem dX9_keepsSlot_169 : decode cX9_keepsSlot 169 = .ok (.aload_n 0, 1) := by decide +kernel
theorem dX9_keepsSlot_170 : decode cX9_keepsSlot 170 = .ok (.getfield 7, 3) := by decide +kernel
theorem dX9_keepsSlot_173 : decode cX9_keepsSlot 173 = .ok (.bipush 114, 2) := by decide +kernel
theorem dX9_keepsSlot_175 : decode cX9_keepsSlot 175 = .ok (.aload_n 0, 1) := by decide +kernel
theorem dX9_keepsSlot_176 : decode cX9_keepsSlot 176 = .ok (.getfield 7, 3) := by decide +kernel
theorem dX9_keepsSlot_179 : decode cX9_keepsSlot 179 = .ok (.iconst 0, 1) := by decide +kernel
theorem dX9_keepsSlot_180 : decode cX9_keepsSlot 180 = .ok (.invokestatic 45, 3) := by decide +kernel
theorem dX9_keepsSlot_183 : decode cX9_keepsSlot 183 = .ok (.bipush 7, 2) := by decide +kernel
theorem dX9_keepsSlot_185 : decode cX9_keepsSlot 185 = .ok (.iadd, 1) := by decide +kernel
theorem dX9_keepsSlot_186 : decode cX9_keepsSlot 186 = .ok (.iaload, 1) := by decide +kernel
theorem dX9_keepsSlot_187 : decode cX9_keepsSlot 187 = .ok (.iconst 2, 1) := by decide +kernel
theorem dX9_keepsSlot_188 : decode cX9_keepsSlot 188 = .ok (.aload_n 0, 1) := by decide +kernel
theorem dX9_keepsSlot_189 : decode cX9_keepsSlot 189 = .ok (.getfield 7, 3) := by decide +kernel
theorem dX9_keepsSlot_192 : decode cX9_keepsSlot 192 = .ok (.iconst 1, 1) := by decide +kernel
theorem dX9_keepsSlot_193 : decode cX9_keepsSlot 193 = .ok (.invokestatic 45, 3) := by decide +kernel
theorem dX9_keepsSlot_196 : decode cX9_keepsSlot 196 = .ok (.bipush 7, 2) := by decide +kernel
theorem dX9_keepsSlot_198 : decode cX9_keepsSlot 198 = .ok (.iadd, 1) := by decide +kernel
theorem dX9_keepsSlot_199 : decode cX9_keepsSlot 199 = .ok (.iaload, 1) := by decide +kernel
theorem dX9_keepsSlot_200 : decode cX9_keepsSlot 200 = .ok (.imul, 1) := by decide +kernel
theorem dX9_keepsSlot_201 : decode cX9_keepsSlot 201 = .ok (.iadd, 1) := by decide +kernel
theorem dX9_keepsSlot_202 : decode cX9_keepsSlot 202 = .ok (.iastore, 1) := by decide +kernel
theorem dX9_keepsSlot_203 : decode cX9_keepsSlot 203 = .ok (.return_, 1) := by decide +kernel
set_option maxRecDepth 20000 in
theorem ggX9_goes_X9_wish : GoodIn wsX9_goes wsX9_wish := goodIn_r _ [7, 1, 8, 9, 10, 6, 11, 12, 13, 14, 15, 16, 17, 18, 19, 20, 21, 61, 62, 63, 64, 65, 66, 67, 68, 69, 70, 71, 72, 73] (by decide +kernel) (by decide +kernel)
set_option maxRecDepth 20000 in
theorem gX9_goes_X9_wish : GoodIn wsX9_goes (wsV RX9 74 RX9 yX9_wish wsX9_wish) := goodIn_app (goodIn_of _ (by decide +kernel)) ggX9_goes_X9_wish
set_option maxRecDepth 20000 in
theorem ggX9_goes_X9_loadAt : GoodIn wsX9_goes wsX9_loadAt := goodIn_r _ [18] (by decide +kernel) (by decide +kernel)
set_option maxRecDepth 20000 in
theorem gX9_goes_X9_loadAt : GoodIn wsX9_goes (va_wsS RX9 45 yX9_loadAt wsX9_loadAt) := goodIn_app (goodIn_of _ (by decide +kernel)) ggX9_goes_X9_loadAt
set_option maxRecDepth 20000 in
theorem ggX9_goes_X9_turnsLeg : GoodIn wsX9_goes wsX9_turnsLeg := goodIn_r _ [25, 1, 19, 20, 6, 21, 16, 17, 18, 61, 62, 63, 64, 65, 66, 67, 68, 69, 70, 71, 72, 73] (by decide +kernel) (by decide +kernel)
set_option maxRecDepth 20000 in
theorem gX9_goes_X9_turnsLeg : GoodIn wsX9_goes (wsV RX9 77 RX9 yX9_turnsLeg wsX9_turnsLeg) := goodIn_app (goodIn_of _ (by decide +kernel)) ggX9_goes_X9_turnsLeg
set_option maxRecDepth 20000 in
theorem ggX9_goes_X9_flows : GoodIn wsX9_goes wsX9_flows := goodIn_r _ [29, 1, 30, 31, 16, 17, 6, 18, 19, 20, 21, 32, 33, 34, 61, 62, 63, 64, 65, 66, 67, 68, 69, 70, 71, 72, 73] (by decide +kernel) (by decide +kernel)
set_option maxRecDepth 20000 in
theorem gX9_goes_X9_flows : GoodIn wsX9_goes (wsV RX9 81 RX9 yX9_flows wsX9_flows) := goodIn_app (goodIn_of _ (by decide +kernel)) ggX9_goes_X9_flows
set_option maxRecDepth 20000 in
theorem ggX9_goes_X9_heats : GoodIn wsX9_goes wsX9_heats := goodIn_r _ [38, 1, 39, 40, 41, 42, 43, 6, 44, 16, 17, 18, 61, 62, 63, 64, 65, 66, 67, 68, 69, 70, 71, 72, 73] (by decide +kernel) (by decide +kernel)
set_option maxRecDepth 20000 in
theorem gX9_goes_X9_heats : GoodIn wsX9_goes (wsV RX9 85 RX9 yX9_heats wsX9_heats) := goodIn_app (goodIn_of _ (by decide +kernel)) ggX9_goes_X9_heats
set_option maxRecDepth 20000 in
theorem ggX9_goes_X9_looks : GoodIn wsX9_goes wsX9_looks := goodIn_r _ [48, 1, 16, 17, 6, 18, 41, 42, 43, 44, 61, 62, 63, 64, 65, 66, 67, 68, 69, 70, 71, 72, 73] (by decide +kernel) (by decide +kernel)
set_option maxRecDepth 20000 in
theorem gX9_goes_X9_looks : GoodIn wsX9_goes (wsV RX9 88 RX9 yX9_looks wsX9_looks) := goodIn_app (goodIn_of _ (by decide +kernel)) ggX9_goes_X9_looks
set_option maxRecDepth 20000 in
theorem ggX9_goes_X9_latches : GoodIn wsX9_goes wsX9_latches := goodIn_r _ [52, 1, 16, 17, 6, 18, 12, 13, 14, 15, 53, 54, 55, 56, 41, 42, 43, 44, 61, 62, 63, 64, 65, 66, 67, 68, 69, 70, 71, 72, 73] (by decide +kernel) (by decide +kernel)
set_option maxRecDepth 20000 in
theorem gX9_goes_X9_latches : GoodIn wsX9_goes (wsV RX9 91 RX9 yX9_latches wsX9_latches) := goodIn_app (goodIn_of _ (by decide +kernel)) ggX9_goes_X9_latches
set_option maxRecDepth 20000 in
theorem ggX9_goes_X9_sizeOf : GoodIn wsX9_goes wsX9_sizeOf := goodIn_r _ [44, 1, 16, 17, 6, 18, 61, 62, 63, 64, 65, 66, 67, 68, 69, 70, 71, 72, 73] (by decide +kernel) (by decide +kernel)
set_option maxRecDepth 20000 in
theorem gX9_goes_X9_sizeOf : GoodIn wsX9_goes (wsV RX9 64 RX9 yX9_sizeOf wsX9_sizeOf) := goodIn_app (goodIn_of _ (by decide +kernel)) ggX9_goes_X9_sizeOf
set_option maxRecDepth 20000 in
theorem ggX9_goes_X9_keepsSlot : GoodIn wsX9_goes wsX9_keepsSlot := goodIn_r _ [60, 1, 16, 17, 6, 18, 19, 20, 21, 61, 62, 63, 64, 65, 66, 67, 68, 69, 70, 71, 72, 73] (by decide +kernel) (by decide +kernel)
set_option maxRecDepth 20000 in
theorem gX9_goes_X9_keepsSlot : GoodIn wsX9_goes (wsV RX9 94 RX9 yX9_keepsSlot wsX9_keepsSlot) := goodIn_app (goodIn_of _ (by decide +kernel)) ggX9_goes_X9_keepsSlot
theorem dX9_goes_0 : decode cX9_goes 0 = .ok (.iconst 0, 1) := by decide +kernel
theorem dX9_goes_1 : decode cX9_goes 1 = .ok (.istore_n 1, 1) := by decide +kernel
theorem dX9_goes_2 : decode cX9_goes 2 = .ok (.iconst 3, 1) := by decide +kernel
theorem dX9_goes_3 : decode cX9_goes 3 = .ok (.istore_n 2, 1) := by decide +kernel
theorem dX9_goes_4 : decode cX9_goes 4 = .ok (.iload_n 2, 1) := by decide +kernel
theorem dX9_goes_5 : decode cX9_goes 5 = .ok (.ifCond .lt 19, 3) := by decide +kernel
theorem dX9_goes_8 : decode cX9_goes 8 = .ok (.iconst 3, 1) := by decide +kernel
theorem dX9_goes_9 : decode cX9_goes 9 = .ok (.iload_n 1, 1) := by decide +kernel
theorem dX9_goes_10 : decode cX9_goes 10 = .ok (.imul, 1) := by decide +kernel
theorem dX9_goes_11 : decode cX9_goes 11 = .ok (.aload_n 0, 1) := by decide +kernel
theorem dX9_goes_12 : decode cX9_goes 12 = .ok (.iload_n 2, 1) := by decide +kernel
theorem dX9_goes_13 : decode cX9_goes 13 = .ok (.invokevirtual 74, 3) := by decide +kernel
theorem dX9_goes_16 : decode cX9_goes 16 = .ok (.iadd, 1) := by decide +kernel
theorem dX9_goes_17 : decode cX9_goes 17 = .ok (.istore_n 1, 1) := by decide +kernel
theorem dX9_goes_18 : decode cX9_goes 18 = .ok (.iinc 2 (-1), 3) := by decide +kernel
theorem dX9_goes_21 : decode cX9_goes 21 = .ok (.goto (-17), 3) := by decide +kernel
theorem dX9_goes_24 : decode cX9_goes 24 = .ok (.iconst 0, 1) := by decide +kernel
theorem dX9_goes_25 : decode cX9_goes 25 = .ok (.istore_n 2, 1) := by decide +kernel
theorem dX9_goes_26 : decode cX9_goes 26 = .ok (.iload_n 2, 1) := by decide +kernel
theorem dX9_goes_27 : decode cX9_goes 27 = .ok (.iconst 2, 1) := by decide +kernel
theorem dX9_goes_28 : decode cX9_goes 28 = .ok (.if_icmp .ge 31, 3) := by decide +kernel
theorem dX9_goes_31 : decode cX9_goes 31 = .ok (.aload_n 0, 1) := by decide +kernel
theorem dX9_goes_32 : decode cX9_goes 32 = .ok (.getfield 7, 3) := by decide +kernel
theorem dX9_goes_35 : decode cX9_goes 35 = .ok (.bipush 101, 2) := by decide +kernel
theorem dX9_goes_37 : decode cX9_goes 37 = .ok (.dup2, 1) := by decide +kernel
theorem dX9_goes_38 : decode cX9_goes 38 = .ok (.iaload, 1) := by decide +kernel
theorem dX9_goes_39 : decode cX9_goes 39 = .ok (.aload_n 0, 1) := by decide +kernel
theorem dX9_goes_40 : decode cX9_goes 40 = .ok (.getfield 7, 3) := by decide +kernel
theorem dX9_goes_43 : decode cX9_goes 43 = .ok (.iload_n 2, 1) := by decide +kernel
theorem dX9_goes_44 : decode cX9_goes 44 = .ok (.invokestatic 45, 3) := by decide +kernel
theorem dX9_goes_47 : decode cX9_goes 47 = .ok (.bipush 7, 2) := by decide +kernel
theorem dX9_goes_49 : decode cX9_goes 49 = .ok (.iadd, 1) := by decide +kernel
theorem dX9_goes_50 : decode cX9_goes 50 = .ok (.iaload, 1) := by decide +kernel
theorem dX9_goes_51 : decode cX9_goes 51 = .ok (.iadd, 1) := by decide +kernel
theorem dX9_goes_52 : decode cX9_goes 52 = .ok (.iastore, 1) := by decide +kernel
theorem dX9_goes_53 : decode cX9_goes 53 = .ok (.iinc 2 1, 3) := by decide +kernel
theorem dX9_goes_56 : decode cX9_goes 56 = .ok (.goto (-30), 3) := by decide +kernel
theorem dX9_goes_59 : decode cX9_goes 59 = .ok (.iconst 0, 1) := by decide +kernel
theorem dX9_goes_60 : decode cX9_goes 60 = .ok (.istore_n 2, 1) := by decide +kernel
theorem dX9_goes_61 : decode cX9_goes 61 = .ok (.iload_n 2, 1) := by decide +kernel
theorem dX9_goes_62 : decode cX9_goes 62 = .ok (.iconst 4, 1) := by decide +kernel
theorem dX9_goes_63 : decode cX9_goes 63 = .ok (.if_icmp .ge 21, 3) := by decide +kernel
theorem dX9_goes_66 : decode cX9_goes 66 = .ok (.aload_n 0, 1) := by decide +kernel
theorem dX9_goes_67 : decode cX9_goes 67 = .ok (.iload_n 2, 1) := by decide +kernel
theorem dX9_goes_68 : decode cX9_goes 68 = .ok (.iload_n 1, 1) := by decide +kernel
theorem dX9_goes_69 : decode cX9_goes 69 = .ok (.iconst 3, 1) := by decide +kernel
theorem dX9_goes_70 : decode cX9_goes 70 = .ok (.irem, 1) := by decide +kernel
theorem dX9_goes_71 : decode cX9_goes 71 = .ok (.invokevirtual 77, 3) := by decide +kernel
theorem dX9_goes_74 : decode cX9_goes 74 = .ok (.iload_n 1, 1) := by decide +kernel
theorem dX9_goes_75 : decode cX9_goes 75 = .ok (.iconst 3, 1) := by decide +kernel
theorem dX9_goes_76 : decode cX9_goes 76 = .ok (.idiv, 1) := by decide +kernel
theorem dX9_goes_77 : decode cX9_goes 77 = .ok (.istore_n 1, 1) := by decide +kernel
theorem dX9_goes_78 : decode cX9_goes 78 = .ok (.iinc 2 1, 3) := by decide +kernel
theorem dX9_goes_81 : decode cX9_goes 81 = .ok (.goto (-20), 3) := by decide +kernel
theorem dX9_goes_84 : decode cX9_goes 84 = .ok (.iconst 0, 1) := by decide +kernel
theorem dX9_goes_85 : decode cX9_goes 85 = .ok (.istore_n 2, 1) := by decide +kernel
theorem dX9_goes_86 : decode cX9_goes 86 = .ok (.iconst 0, 1) := by decide +kernel
theorem dX9_goes_87 : decode cX9_goes 87 = .ok (.istore_n 3, 1) := by decide +kernel
theorem dX9_goes_88 : decode cX9_goes 88 = .ok (.iload_n 3, 1) := by decide +kernel
theorem dX9_goes_89 : decode cX9_goes 89 = .ok (.iconst 2, 1) := by decide +kernel
theorem dX9_goes_90 : decode cX9_goes 90 = .ok (.if_icmp .ge 82, 3) := by decide +kernel
theorem dX9_goes_93 : decode cX9_goes 93 = .ok (.aload_n 0, 1) := by decide +kernel
theorem dX9_goes_94 : decode cX9_goes 94 = .ok (.iload_n 3, 1) := by decide +kernel
theorem dX9_goes_95 : decode cX9_goes 95 = .ok (.invokevirtual 81, 3) := by decide +kernel
theorem dX9_goes_98 : decode cX9_goes 98 = .ok (.aload_n 0, 1) := by decide +kernel
theorem dX9_goes_99 : decode cX9_goes 99 = .ok (.iload_n 3, 1) := by decide +kernel
theorem dX9_goes_100 : decode cX9_goes 100 = .ok (.invokevirtual 85, 3) := by decide +kernel
theorem dX9_goes_103 : decode cX9_goes 103 = .ok (.aload_n 0, 1) := by decide +kernel
theorem dX9_goes_104 : decode cX9_goes 104 = .ok (.iload_n 3, 1) := by decide +kernel
theorem dX9_goes_105 : decode cX9_goes 105 = .ok (.invokevirtual 88, 3) := by decide +kernel
theorem dX9_goes_108 : decode cX9_goes 108 = .ok (.iload_n 2, 1) := by decide +kernel
theorem dX9_goes_109 : decode cX9_goes 109 = .ok (.aload_n 0, 1) := by decide +kernel
theorem dX9_goes_110 : decode cX9_goes 110 = .ok (.iload_n 3, 1) := by decide +kernel
theorem dX9_goes_111 : decode cX9_goes 111 = .ok (.invokevirtual 91, 3) := by decide +kernel
theorem dX9_goes_114 : decode cX9_goes 114 = .ok (.iadd, 1) := by decide +kernel
theorem dX9_goes_115 : decode cX9_goes 115 = .ok (.istore_n 2, 1) := by decide +kernel
theorem dX9_goes_116 : decode cX9_goes 116 = .ok (.aload_n 0, 1) := by decide +kernel
theorem dX9_goes_117 : decode cX9_goes 117 = .ok (.getfield 7, 3) := by decide +kernel
theorem dX9_goes_120 : decode cX9_goes 120 = .ok (.iload_n 3, 1) := by decide +kernel
theorem dX9_goes_121 : decode cX9_goes 121 = .ok (.invokestatic 45, 3) := by decide +kernel
theorem dX9_goes_124 : decode cX9_goes 124 = .ok (.bipush 8, 2) := by decide +kernel
theorem dX9_goes_126 : decode cX9_goes 126 = .ok (.iadd, 1) := by decide +kernel
theorem dX9_goes_127 : decode cX9_goes 127 = .ok (.dup2, 1) := by decide +kernel
theorem dX9_goes_128 : decode cX9_goes 128 = .ok (.iaload, 1) := by decide +kernel
theorem dX9_goes_129 : decode cX9_goes 129 = .ok (.aload_n 0, 1) := by decide +kernel
theorem dX9_goes_130 : decode cX9_goes 130 = .ok (.getfield 7, 3) := by decide +kernel
theorem dX9_goes_133 : decode cX9_goes 133 = .ok (.iload_n 3, 1) := by decide +kernel
theorem dX9_goes_134 : decode cX9_goes 134 = .ok (.invokestatic 45, 3) := by decide +kernel
theorem dX9_goes_137 : decode cX9_goes 137 = .ok (.bipush 8, 2) := by decide +kernel
theorem dX9_goes_139 : decode cX9_goes 139 = .ok (.iadd, 1) := by decide +kernel
theorem dX9_goes_140 : decode cX9_goes 140 = .ok (.iaload, 1) := by decide +kernel
theorem dX9_goes_141 : decode cX9_goes 141 = .ok (.ifCond .le 7, 3) := by decide +kernel
theorem dX9_goes_144 : decode cX9_goes 144 = .ok (.iconst 1, 1) := by decide +kernel
theorem dX9_goes_145 : decode cX9_goes 145 = .ok (.goto 4, 3) := by decide +kernel
theorem dX9_goes_148 : decode cX9_goes 148 = .ok (.iconst 0, 1) := by decide +kernel
theorem dX9_goes_149 : decode cX9_goes 149 = .ok (.isub, 1) := by decide +kernel
theorem dX9_goes_150 : decode cX9_goes 150 = .ok (.iastore, 1) := by decide +kernel
theorem dX9_goes_151 : decode cX9_goes 151 = .ok (.aload_n 0, 1) := by decide +kernel
theorem dX9_goes_152 : decode cX9_goes 152 = .ok (.dup, 1) := by decide +kernel
theorem dX9_goes_153 : decode cX9_goes 153 = .ok (.getfield 41, 3) := by decide +kernel
theorem dX9_goes_156 : decode cX9_goes 156 = .ok (.aload_n 0, 1) := by decide +kernel
theorem dX9_goes_157 : decode cX9_goes 157 = .ok (.iload_n 3, 1) := by decide +kernel
theorem dX9_goes_158 : decode cX9_goes 158 = .ok (.invokevirtual 64, 3) := by decide +kernel
theorem dX9_goes_161 : decode cX9_goes 161 = .ok (.i2l, 1) := by decide +kernel
theorem dX9_goes_162 : decode cX9_goes 162 = .ok (.ladd, 1) := by decide +kernel
theorem dX9_goes_163 : decode cX9_goes 163 = .ok (.putfield 41, 3) := by decide +kernel
theorem dX9_goes_166 : decode cX9_goes 166 = .ok (.iinc 3 1, 3) := by decide +kernel
theorem dX9_goes_169 : decode cX9_goes 169 = .ok (.goto (-81), 3) := by decide +kernel
theorem dX9_goes_172 : decode cX9_goes 172 = .ok (.aload_n 0, 1) := by decide +kernel
theorem dX9_goes_173 : decode cX9_goes 173 = .ok (.invokevirtual 94, 3) := by decide +kernel
theorem dX9_goes_176 : decode cX9_goes 176 = .ok (.aload_n 0, 1) := by decide +kernel
theorem dX9_goes_177 : decode cX9_goes 177 = .ok (.getfield 7, 3) := by decide +kernel
theorem dX9_goes_180 : decode cX9_goes 180 = .ok (.iconst 0, 1) := by decide +kernel
theorem dX9_goes_181 : decode cX9_goes 181 = .ok (.dup2, 1) := by decide +kernel
theorem dX9_goes_182 : decode cX9_goes 182 = .ok (.iaload, 1) := by decide +kernel
theorem dX9_goes_183 : decode cX9_goes 183 = .ok (.iconst 1, 1) := by decide +kernel
theorem dX9_goes_184 : decode cX9_goes 184 = .ok (.iadd, 1) := by decide +kernel
theorem dX9_goes_185 : decode cX9_goes 185 = .ok (.iastore, 1) := by decide +kernel
theorem dX9_goes_186 : decode cX9_goes 186 = .ok (.iload_n 2, 1) := by decide +kernel
theorem dX9_goes_187 : decode cX9_goes 187 = .ok (.ireturn, 1) := by decide +kernel
set_option maxRecDepth 20000 in
theorem ggX9_isSetting_X9_in : GoodIn wsX9_isSetting wsX9_in := goodIn_r _ [10] (by decide +kernel) (by decide +kernel)
set_option maxRecDepth 20000 in
theorem gX9_isSetting_X9_in : GoodIn wsX9_isSetting (va_wsS RX9 33 yX9_in wsX9_in) := goodIn_app (goodIn_of _ (by decide +kernel)) ggX9_isSetting_X9_in
theorem dX9_isSetting_0 : decode cX9_isSetting 0 = .ok (.iload_n 0, 1) := by decide +kernel
theorem dX9_isSetting_1 : decode cX9_isSetting 1 = .ok (.tableswitch 101 0 5 #[39, 49, 59, 69, 81, 91], 39) := by decide +kernel
theorem dX9_isSetting_40 : decode cX9_isSetting 40 = .ok (.iload_n 1, 1) := by decide +kernel
theorem dX9_isSetting_41 : decode cX9_isSetting 41 = .ok (.i2l, 1) := by decide +kernel
theorem dX9_isSetting_42 : decode cX9_isSetting 42 = .ok (.lconst 0, 1) := by decide +kernel
theorem dX9_isSetting_43 : decode cX9_isSetting 43 = .ok (.ldc2_w 97, 3) := by decide +kernel
theorem dX9_isSetting_46 : decode cX9_isSetting 46 = .ok (.invokestatic 33, 3) := by decide +kernel
theorem dX9_isSetting_49 : decode cX9_isSetting 49 = .ok (.ireturn, 1) := by decide +kernel
theorem dX9_isSetting_50 : decode cX9_isSetting 50 = .ok (.iload_n 1, 1) := by decide +kernel
theorem dX9_isSetting_51 : decode cX9_isSetting 51 = .ok (.i2l, 1) := by decide +kernel
theorem dX9_isSetting_52 : decode cX9_isSetting 52 = .ok (.lconst 0, 1) := by decide +kernel
theorem dX9_isSetting_53 : decode cX9_isSetting 53 = .ok (.ldc2_w 99, 3) := by decide +kernel
theorem dX9_isSetting_56 : decode cX9_isSetting 56 = .ok (.invokestatic 33, 3) := by decide +kernel
theorem dX9_isSetting_59 : decode cX9_isSetting 59 = .ok (.ireturn, 1) := by decide +kernel
theorem dX9_isSetting_60 : decode cX9_isSetting 60 = .ok (.iload_n 1, 1) := by decide +kernel
theorem dX9_isSetting_61 : decode cX9_isSetting 61 = .ok (.i2l, 1) := by decide +kernel
theorem dX9_isSetting_62 : decode cX9_isSetting 62 = .ok (.lconst 1, 1) := by decide +kernel
theorem dX9_isSetting_63 : decode cX9_isSetting 63 = .ok (.ldc2_w 101, 3) := by decide +kernel
theorem dX9_isSetting_66 : decode cX9_isSetting 66 = .ok (.invokestatic 33, 3) := by decide +kernel
theorem dX9_isSetting_69 : decode cX9_isSetting 69 = .ok (.ireturn, 1) := by decide +kernel
theorem dX9_isSetting_70 : decode cX9_isSetting 70 = .ok (.iload_n 1, 1) := by decide +kernel
theorem dX9_isSetting_71 : decode cX9_isSetting 71 = .ok (.i2l, 1) := by decide +kernel
theorem dX9_isSetting_72 : decode cX9_isSetting 72 = .ok (.ldc2_w 103, 3) := by decide +kernel
theorem dX9_isSetting_75 : decode cX9_isSetting 75 = .ok (.ldc2_w 105, 3) := by decide +kernel
theorem dX9_isSetting_78 : decode cX9_isSetting 78 = .ok (.invokestatic 33, 3) := by decide +kernel
theorem dX9_isSetting_81 : decode cX9_isSetting 81 = .ok (.ireturn, 1) := by decide +kernel
theorem dX9_isSetting_82 : decode cX9_isSetting 82 = .ok (.iload_n 1, 1) := by decide +kernel
theorem dX9_isSetting_83 : decode cX9_isSetting 83 = .ok (.i2l, 1) := by decide +kernel
theorem dX9_isSetting_84 : decode cX9_isSetting 84 = .ok (.lconst 1, 1) := by decide +kernel
theorem dX9_isSetting_85 : decode cX9_isSetting 85 = .ok (.ldc2_w 107, 3) := by decide +kernel
theorem dX9_isSetting_88 : decode cX9_isSetting 88 = .ok (.invokestatic 33, 3) := by decide +kernel
theorem dX9_isSetting_91 : decode cX9_isSetting 91 = .ok (.ireturn, 1) := by decide +kernel
theorem dX9_isSetting_92 : decode cX9_isSetting 92 = .ok (.iload_n 1, 1) := by decide +kernel
theorem dX9_isSetting_93 : decode cX9_isSetting 93 = .ok (.i2l, 1) := by decide +kernel
theorem dX9_isSetting_94 : decode cX9_isSetting 94 = .ok (.lconst 0, 1) := by decide +kernel
theorem dX9_isSetting_95 : decode cX9_isSetting 95 = .ok (.ldc2_w 101, 3) := by decide +kernel
theorem dX9_isSetting_98 : decode cX9_isSetting 98 = .ok (.invokestatic 33, 3) := by decide +kernel
theorem dX9_isSetting_101 : decode cX9_isSetting 101 = .ok (.ireturn, 1) := by decide +kernel
theorem dX9_isSetting_102 : decode cX9_isSetting 102 = .ok (.iconst 0, 1) := by decide +kernel
theorem dX9_isSetting_103 : decode cX9_isSetting 103 = .ok (.ireturn, 1) := by decide +kernel
set_option maxRecDepth 20000 in
theorem ggX9_set_X9_isSetting : GoodIn wsX9_set wsX9_isSetting := goodIn_r _ [6, 7, 8, 9, 10, 11, 12, 13, 14, 5, 15] (by decide +kernel) (by decide +kernel)
set_option maxRecDepth 20000 in
theorem gX9_set_X9_isSetting : GoodIn wsX9_set (va_wsS RX9 109 yX9_isSetting wsX9_isSetting) := goodIn_app (goodIn_of _ (by decide +kernel)) ggX9_set_X9_isSetting
set_option maxRecDepth 20000 in
theorem ggX9_set_X9_records : GoodIn wsX9_set wsX9_records := goodIn_r _ [19, 20, 21, 22, 2, 23, 24, 25, 26, 27, 28, 29, 30, 31, 32, 33, 34, 35, 36] (by decide +kernel) (by decide +kernel)
set_option maxRecDepth 20000 in
theorem gX9_set_X9_records : GoodIn wsX9_set (wsV RX9 113 RX9 yX9_records wsX9_records) := goodIn_app (goodIn_of _ (by decide +kernel)) ggX9_set_X9_records
theorem dX9_set_0 : decode cX9_set 0 = .ok (.iload_n 1, 1) := by decide +kernel
theorem dX9_set_1 : decode cX9_set 1 = .ok (.iload_n 2, 1) := by decide +kernel
theorem dX9_set_2 : decode cX9_set 2 = .ok (.invokestatic 109, 3) := by decide +kernel
theorem dX9_set_5 : decode cX9_set 5 = .ok (.ifCond .ne 6, 3) := by decide +kernel
theorem dX9_set_8 : decode cX9_set 8 = .ok (.ldc 112, 2) := by decide +kernel
theorem dX9_set_10 : decode cX9_set 10 = .ok (.ireturn, 1) := by decide +kernel
theorem dX9_set_11 : decode cX9_set 11 = .ok (.aload_n 0, 1) := by decide +kernel
theorem dX9_set_12 : decode cX9_set 12 = .ok (.invokevirtual 113, 3) := by decide +kernel
theorem dX9_set_15 : decode cX9_set 15 = .ok (.aload_n 0, 1) := by decide +kernel
theorem dX9_set_16 : decode cX9_set 16 = .ok (.getfield 7, 3) := by decide +kernel
theorem dX9_set_19 : decode cX9_set 19 = .ok (.iconst 1, 1) := by decide +kernel
theorem dX9_set_20 : decode cX9_set 20 = .ok (.iload_n 1, 1) := by decide +kernel
theorem dX9_set_21 : decode cX9_set 21 = .ok (.iadd, 1) := by decide +kernel
theorem dX9_set_22 : decode cX9_set 22 = .ok (.iaload, 1) := by decide +kernel
theorem dX9_set_23 : decode cX9_set 23 = .ok (.istore_n 3, 1) := by decide +kernel
theorem dX9_set_24 : decode cX9_set 24 = .ok (.aload_n 0, 1) := by decide +kernel
theorem dX9_set_25 : decode cX9_set 25 = .ok (.getfield 7, 3) := by decide +kernel
theorem dX9_set_28 : decode cX9_set 28 = .ok (.iconst 1, 1) := by decide +kernel
theorem dX9_set_29 : decode cX9_set 29 = .ok (.iload_n 1, 1) := by decide +kernel
theorem dX9_set_30 : decode cX9_set 30 = .ok (.iadd, 1) := by decide +kernel
theorem dX9_set_31 : decode cX9_set 31 = .ok (.iload_n 2, 1) := by decide +kernel
theorem dX9_set_32 : decode cX9_set 32 = .ok (.iastore, 1) := by decide +kernel
theorem dX9_set_33 : decode cX9_set 33 = .ok (.iload_n 3, 1) := by decide +kernel
theorem dX9_set_34 : decode cX9_set 34 = .ok (.ireturn, 1) := by decide +kernel
set_option maxRecDepth 20000 in
theorem ggX9_isOfLoad_X9_in : GoodIn wsX9_isOfLoad wsX9_in := goodIn_r _ [7] (by decide +kernel) (by decide +kernel)
set_option maxRecDepth 20000 in
theorem gX9_isOfLoad_X9_in : GoodIn wsX9_isOfLoad (va_wsS RX9 33 yX9_in wsX9_in) := goodIn_app (goodIn_of _ (by decide +kernel)) ggX9_isOfLoad_X9_in
theorem dX9_isOfLoad_0 : decode cX9_isOfLoad 0 = .ok (.iload_n 0, 1) := by decide +kernel
theorem dX9_isOfLoad_1 : decode cX9_isOfLoad 1 = .ok (.tableswitch 71 0 3 #[31, 41, 51, 61], 31) := by decide +kernel
theorem dX9_isOfLoad_32 : decode cX9_isOfLoad 32 = .ok (.iload_n 1, 1) := by decide +kernel
theorem dX9_isOfLoad_33 : decode cX9_isOfLoad 33 = .ok (.i2l, 1) := by decide +kernel
theorem dX9_isOfLoad_34 : decode cX9_isOfLoad 34 = .ok (.lconst 1, 1) := by decide +kernel
theorem dX9_isOfLoad_35 : decode cX9_isOfLoad 35 = .ok (.ldc2_w 67, 3) := by decide +kernel
theorem dX9_isOfLoad_38 : decode cX9_isOfLoad 38 = .ok (.invokestatic 33, 3) := by decide +kernel
theorem dX9_isOfLoad_41 : decode cX9_isOfLoad 41 = .ok (.ireturn, 1) := by decide +kernel
theorem dX9_isOfLoad_42 : decode cX9_isOfLoad 42 = .ok (.iload_n 1, 1) := by decide +kernel
theorem dX9_isOfLoad_43 : decode cX9_isOfLoad 43 = .ok (.i2l, 1) := by decide +kernel
theorem dX9_isOfLoad_44 : decode cX9_isOfLoad 44 = .ok (.lconst 0, 1) := by decide +kernel
theorem dX9_isOfLoad_45 : decode cX9_isOfLoad 45 = .ok (.ldc2_w 105, 3) := by decide +kernel
theorem dX9_isOfLoad_48 : decode cX9_isOfLoad 48 = .ok (.invokestatic 33, 3) := by decide +kernel
theorem dX9_isOfLoad_51 : decode cX9_isOfLoad 51 = .ok (.ireturn, 1) := by decide +kernel
theorem dX9_isOfLoad_52 : decode cX9_isOfLoad 52 = .ok (.iload_n 1, 1) := by decide +kernel
theorem dX9_isOfLoad_53 : decode cX9_isOfLoad 53 = .ok (.i2l, 1) := by decide +kernel
theorem dX9_isOfLoad_54 : decode cX9_isOfLoad 54 = .ok (.lconst 1, 1) := by decide +kernel
theorem dX9_isOfLoad_55 : decode cX9_isOfLoad 55 = .ok (.ldc2_w 116, 3) := by decide +kernel
theorem dX9_isOfLoad_58 : decode cX9_isOfLoad 58 = .ok (.invokestatic 33, 3) := by decide +kernel
theorem dX9_isOfLoad_61 : decode cX9_isOfLoad 61 = .ok (.ireturn, 1) := by decide +kernel
theorem dX9_isOfLoad_62 : decode cX9_isOfLoad 62 = .ok (.iload_n 1, 1) := by decide +kernel
theorem dX9_isOfLoad_63 : decode cX9_isOfLoad 63 = .ok (.i2l, 1) := by decide +kernel
theorem dX9_isOfLoad_64 : decode cX9_isOfLoad 64 = .ok (.lconst 0, 1) := by decide +kernel
theorem dX9_isOfLoad_65 : decode cX9_isOfLoad 65 = .ok (.ldc2_w 116, 3) := by decide +kernel
theorem dX9_isOfLoad_68 : decode cX9_isOfLoad 68 = .ok (.invokestatic 33, 3) := by decide +kernel
theorem dX9_isOfLoad_71 : decode cX9_isOfLoad 71 = .ok (.ireturn, 1) := by decide +kernel
theorem dX9_isOfLoad_72 : decode cX9_isOfLoad 72 = .ok (.iconst 0, 1) := by decide +kernel
theorem dX9_isOfLoad_73 : decode cX9_isOfLoad 73 = .ok (.ireturn, 1) := by decide +kernel
set_option maxRecDepth 20000 in
theorem ggX9_setLoad_X9_isLoad : GoodIn wsX9_setLoad wsX9_isLoad := goodIn_r _ [6, 7, 8, 5, 9] (by decide +kernel) (by decide +kernel)
set_option maxRecDepth 20000 in
theorem gX9_setLoad_X9_isLoad : GoodIn wsX9_setLoad (va_wsS RX9 118 yX9_isLoad wsX9_isLoad) := goodIn_app (goodIn_of _ (by decide +kernel)) ggX9_setLoad_X9_isLoad
set_option maxRecDepth 20000 in
theorem ggX9_setLoad_X9_isOfLoad : GoodIn wsX9_setLoad wsX9_isOfLoad := goodIn_r _ [12, 13, 14, 15, 7, 8, 5, 9] (by decide +kernel) (by decide +kernel)
set_option maxRecDepth 20000 in
theorem gX9_setLoad_X9_isOfLoad : GoodIn wsX9_setLoad (va_wsS RX9 122 yX9_isOfLoad wsX9_isOfLoad) := goodIn_app (goodIn_of _ (by decide +kernel)) ggX9_setLoad_X9_isOfLoad
set_option maxRecDepth 20000 in
theorem ggX9_setLoad_X9_records : GoodIn wsX9_setLoad wsX9_records := goodIn_r _ [19, 20, 21, 22, 2, 23, 27, 28, 29, 30, 31, 32, 33, 34, 35, 36, 37, 38, 39] (by decide +kernel) (by decide +kernel)
set_option maxRecDepth 20000 in
theorem gX9_setLoad_X9_records : GoodIn wsX9_setLoad (wsV RX9 113 RX9 yX9_records wsX9_records) := goodIn_app (goodIn_of _ (by decide +kernel)) ggX9_setLoad_X9_records
set_option maxRecDepth 20000 in
theorem ggX9_setLoad_X9_loadAt : GoodIn wsX9_setLoad wsX9_loadAt := goodIn_r _ [26] (by decide +kernel) (by decide +kernel)
set_option maxRecDepth 20000 in
theorem gX9_setLoad_X9_loadAt : GoodIn wsX9_setLoad (va_wsS RX9 45 yX9_loadAt wsX9_loadAt) := goodIn_app (goodIn_of _ (by decide +kernel)) ggX9_setLoad_X9_loadAt
theorem dX9_setLoad_0 : decode cX9_setLoad 0 = .ok (.iload_n 1, 1) := by decide +kernel
theorem dX9_setLoad_1 : decode cX9_setLoad 1 = .ok (.invokestatic 118, 3) := by decide +kernel
theorem dX9_setLoad_4 : decode cX9_setLoad 4 = .ok (.ifCond .eq 11, 3) := by decide +kernel
theorem dX9_setLoad_7 : decode cX9_setLoad 7 = .ok (.iload_n 2, 1) := by decide +kernel
theorem dX9_setLoad_8 : decode cX9_setLoad 8 = .ok (.iload_n 3, 1) := by decide +kernel
theorem dX9_setLoad_9 : decode cX9_setLoad 9 = .ok (.invokestatic 122, 3) := by decide +kernel
theorem dX9_setLoad_12 : decode cX9_setLoad 12 = .ok (.ifCond .ne 6, 3) := by decide +kernel
theorem dX9_setLoad_15 : decode cX9_setLoad 15 = .ok (.ldc 112, 2) := by decide +kernel
theorem dX9_setLoad_17 : decode cX9_setLoad 17 = .ok (.ireturn, 1) := by decide +kernel
theorem dX9_setLoad_18 : decode cX9_setLoad 18 = .ok (.aload_n 0, 1) := by decide +kernel
theorem dX9_setLoad_19 : decode cX9_setLoad 19 = .ok (.invokevirtual 113, 3) := by decide +kernel
theorem dX9_setLoad_22 : decode cX9_setLoad 22 = .ok (.aload_n 0, 1) := by decide +kernel
theorem dX9_setLoad_23 : decode cX9_setLoad 23 = .ok (.getfield 7, 3) := by decide +kernel
theorem dX9_setLoad_26 : decode cX9_setLoad 26 = .ok (.iload_n 1, 1) := by decide +kernel
theorem dX9_setLoad_27 : decode cX9_setLoad 27 = .ok (.invokestatic 45, 3) := by decide +kernel
theorem dX9_setLoad_30 : decode cX9_setLoad 30 = .ok (.iload_n 2, 1) := by decide +kernel
theorem dX9_setLoad_31 : decode cX9_setLoad 31 = .ok (.iadd, 1) := by decide +kernel
theorem dX9_setLoad_32 : decode cX9_setLoad 32 = .ok (.iaload, 1) := by decide +kernel
theorem dX9_setLoad_33 : decode cX9_setLoad 33 = .ok (.istore 4, 2) := by decide +kernel
theorem dX9_setLoad_35 : decode cX9_setLoad 35 = .ok (.aload_n 0, 1) := by decide +kernel
theorem dX9_setLoad_36 : decode cX9_setLoad 36 = .ok (.getfield 7, 3) := by decide +kernel
theorem dX9_setLoad_39 : decode cX9_setLoad 39 = .ok (.iload_n 1, 1) := by decide +kernel
theorem dX9_setLoad_40 : decode cX9_setLoad 40 = .ok (.invokestatic 45, 3) := by decide +kernel
theorem dX9_setLoad_43 : decode cX9_setLoad 43 = .ok (.iload_n 2, 1) := by decide +kernel
theorem dX9_setLoad_44 : decode cX9_setLoad 44 = .ok (.iadd, 1) := by decide +kernel
theorem dX9_setLoad_45 : decode cX9_setLoad 45 = .ok (.iload_n 3, 1) := by decide +kernel
theorem dX9_setLoad_46 : decode cX9_setLoad 46 = .ok (.iastore, 1) := by decide +kernel
theorem dX9_setLoad_47 : decode cX9_setLoad 47 = .ok (.iload 4, 2) := by decide +kernel
theorem dX9_setLoad_49 : decode cX9_setLoad 49 = .ok (.ireturn, 1) := by decide +kernel
set_option maxRecDepth 20000 in
theorem ggX9_command_X9_isLeg : GoodIn wsX9_command wsX9_isLeg := goodIn_r _ [7, 8, 9, 10, 6, 11] (by decide +kernel) (by decide +kernel)
set_option maxRecDepth 20000 in
theorem gX9_command_X9_isLeg : GoodIn wsX9_command (va_wsS RX9 125 yX9_isLeg wsX9_isLeg) := goodIn_app (goodIn_of _ (by decide +kernel)) ggX9_command_X9_isLeg
set_option maxRecDepth 20000 in
theorem ggX9_command_X9_in : GoodIn wsX9_command wsX9_in := goodIn_r _ [11] (by decide +kernel) (by decide +kernel)
set_option maxRecDepth 20000 in
theorem gX9_command_X9_in : GoodIn wsX9_command (va_wsS RX9 33 yX9_in wsX9_in) := goodIn_app (goodIn_of _ (by decide +kernel)) ggX9_command_X9_in
set_option maxRecDepth 20000 in
theorem ggX9_command_X9_records : GoodIn wsX9_command wsX9_records := goodIn_r _ [15, 16, 17, 18, 3, 19, 23, 24, 25, 26, 27, 28, 29, 30, 31, 32, 33, 34, 35] (by decide +kernel) (by decide +kernel)
set_option maxRecDepth 20000 in
theorem gX9_command_X9_records : GoodIn wsX9_command (wsV RX9 113 RX9 yX9_records wsX9_records) := goodIn_app (goodIn_of _ (by decide +kernel)) ggX9_command_X9_records
set_option maxRecDepth 20000 in
theorem ggX9_command_X9_legAt : GoodIn wsX9_command wsX9_legAt := goodIn_r _ [22] (by decide +kernel) (by decide +kernel)
set_option maxRecDepth 20000 in
theorem gX9_command_X9_legAt : GoodIn wsX9_command (va_wsS RX9 56 yX9_legAt wsX9_legAt) := goodIn_app (goodIn_of _ (by decide +kernel)) ggX9_command_X9_legAt
theorem dX9_command_0 : decode cX9_command 0 = .ok (.iload_n 1, 1) := by decide +kernel
theorem dX9_command_1 : decode cX9_command 1 = .ok (.invokestatic 125, 3) := by decide +kernel
theorem dX9_command_4 : decode cX9_command 4 = .ok (.ifCond .eq 15, 3) := by decide +kernel
theorem dX9_command_7 : decode cX9_command 7 = .ok (.iload_n 2, 1) := by decide +kernel
theorem dX9_command_8 : decode cX9_command 8 = .ok (.i2l, 1) := by decide +kernel
theorem dX9_command_9 : decode cX9_command 9 = .ok (.lconst 0, 1) := by decide +kernel
theorem dX9_command_10 : decode cX9_command 10 = .ok (.ldc2_w 103, 3) := by decide +kernel
theorem dX9_command_13 : decode cX9_command 13 = .ok (.invokestatic 33, 3) := by decide +kernel
theorem dX9_command_16 : decode cX9_command 16 = .ok (.ifCond .ne 6, 3) := by decide +kernel
theorem dX9_command_19 : decode cX9_command 19 = .ok (.ldc 112, 2) := by decide +kernel
theorem dX9_command_21 : decode cX9_command 21 = .ok (.ireturn, 1) := by decide +kernel
theorem dX9_command_22 : decode cX9_command 22 = .ok (.aload_n 0, 1) := by decide +kernel
theorem dX9_command_23 : decode cX9_command 23 = .ok (.invokevirtual 113, 3) := by decide +kernel
theorem dX9_command_26 : decode cX9_command 26 = .ok (.aload_n 0, 1) := by decide +kernel
theorem dX9_command_27 : decode cX9_command 27 = .ok (.getfield 7, 3) := by decide +kernel
theorem dX9_command_30 : decode cX9_command 30 = .ok (.iload_n 1, 1) := by decide +kernel
theorem dX9_command_31 : decode cX9_command 31 = .ok (.invokestatic 56, 3) := by decide +kernel
theorem dX9_command_34 : decode cX9_command 34 = .ok (.iconst 0, 1) := by decide +kernel
theorem dX9_command_35 : decode cX9_command 35 = .ok (.iadd, 1) := by decide +kernel
theorem dX9_command_36 : decode cX9_command 36 = .ok (.iaload, 1) := by decide +kernel
theorem dX9_command_37 : decode cX9_command 37 = .ok (.istore_n 3, 1) := by decide +kernel
theorem dX9_command_38 : decode cX9_command 38 = .ok (.aload_n 0, 1) := by decide +kernel
theorem dX9_command_39 : decode cX9_command 39 = .ok (.getfield 7, 3) := by decide +kernel
theorem dX9_command_42 : decode cX9_command 42 = .ok (.iload_n 1, 1) := by decide +kernel
theorem dX9_command_43 : decode cX9_command 43 = .ok (.invokestatic 56, 3) := by decide +kernel
theorem dX9_command_46 : decode cX9_command 46 = .ok (.iconst 0, 1) := by decide +kernel
theorem dX9_command_47 : decode cX9_command 47 = .ok (.iadd, 1) := by decide +kernel
theorem dX9_command_48 : decode cX9_command 48 = .ok (.iload_n 2, 1) := by decide +kernel
theorem dX9_command_49 : decode cX9_command 49 = .ok (.iastore, 1) := by decide +kernel
theorem dX9_command_50 : decode cX9_command 50 = .ok (.iload_n 3, 1) := by decide +kernel
theorem dX9_command_51 : decode cX9_command 51 = .ok (.ireturn, 1) := by decide +kernel
set_option maxRecDepth 20000 in
theorem ggX9_chop_X9_isLoad : GoodIn wsX9_chop wsX9_isLoad := goodIn_r _ [6, 7, 8, 5, 9] (by decide +kernel) (by decide +kernel)
set_option maxRecDepth 20000 in
theorem gX9_chop_X9_isLoad : GoodIn wsX9_chop (va_wsS RX9 118 yX9_isLoad wsX9_isLoad) := goodIn_app (goodIn_of _ (by decide +kernel)) ggX9_chop_X9_isLoad
set_option maxRecDepth 20000 in
theorem ggX9_chop_X9_in : GoodIn wsX9_chop wsX9_in := goodIn_r _ [9] (by decide +kernel) (by decide +kernel)
set_option maxRecDepth 20000 in
theorem gX9_chop_X9_in : GoodIn wsX9_chop (va_wsS RX9 33 yX9_in wsX9_in) := goodIn_app (goodIn_of _ (by decide +kernel)) ggX9_chop_X9_in
set_option maxRecDepth 20000 in
theorem ggX9_chop_X9_records : GoodIn wsX9_chop wsX9_records := goodIn_r _ [13, 14, 15, 16, 2, 17, 21, 22, 23, 24, 25, 26, 27, 28, 29, 30, 31, 32, 33] (by decide +kernel) (by decide +kernel)
set_option maxRecDepth 20000 in
theorem gX9_chop_X9_records : GoodIn wsX9_chop (wsV RX9 113 RX9 yX9_records wsX9_records) := goodIn_app (goodIn_of _ (by decide +kernel)) ggX9_chop_X9_records
set_option maxRecDepth 20000 in
theorem ggX9_chop_X9_loadAt : GoodIn wsX9_chop wsX9_loadAt := goodIn_r _ [20] (by decide +kernel) (by decide +kernel)
set_option maxRecDepth 20000 in
theorem gX9_chop_X9_loadAt : GoodIn wsX9_chop (va_wsS RX9 45 yX9_loadAt wsX9_loadAt) := goodIn_app (goodIn_of _ (by decide +kernel)) ggX9_chop_X9_loadAt
theorem dX9_chop_0 : decode cX9_chop 0 = .ok (.iload_n 1, 1) := by decide +kernel
theorem dX9_chop_1 : decode cX9_chop 1 = .ok (.invokestatic 118, 3) := by decide +kernel
theorem dX9_chop_4 : decode cX9_chop 4 = .ok (.ifCond .eq 13, 3) := by decide +kernel
theorem dX9_chop_7 : decode cX9_chop 7 = .ok (.iload_n 2, 1) := by decide +kernel
theorem dX9_chop_8 : decode cX9_chop 8 = .ok (.i2l, 1) := by decide +kernel
theorem dX9_chop_9 : decode cX9_chop 9 = .ok (.lconst 0, 1) := by decide +kernel
theorem dX9_chop_10 : decode cX9_chop 10 = .ok (.lconst 1, 1) := by decide +kernel
theorem dX9_chop_11 : decode cX9_chop 11 = .ok (.invokestatic 33, 3) := by decide +kernel
theorem dX9_chop_14 : decode cX9_chop 14 = .ok (.ifCond .ne 6, 3) := by decide +kernel
theorem dX9_chop_17 : decode cX9_chop 17 = .ok (.ldc 112, 2) := by decide +kernel
theorem dX9_chop_19 : decode cX9_chop 19 = .ok (.ireturn, 1) := by decide +kernel
theorem dX9_chop_20 : decode cX9_chop 20 = .ok (.aload_n 0, 1) := by decide +kernel
theorem dX9_chop_21 : decode cX9_chop 21 = .ok (.invokevirtual 113, 3) := by decide +kernel
theorem dX9_chop_24 : decode cX9_chop 24 = .ok (.aload_n 0, 1) := by decide +kernel
theorem dX9_chop_25 : decode cX9_chop 25 = .ok (.getfield 7, 3) := by decide +kernel
theorem dX9_chop_28 : decode cX9_chop 28 = .ok (.iload_n 1, 1) := by decide +kernel
theorem dX9_chop_29 : decode cX9_chop 29 = .ok (.invokestatic 45, 3) := by decide +kernel
theorem dX9_chop_32 : decode cX9_chop 32 = .ok (.bipush 6, 2) := by decide +kernel
theorem dX9_chop_34 : decode cX9_chop 34 = .ok (.iadd, 1) := by decide +kernel
theorem dX9_chop_35 : decode cX9_chop 35 = .ok (.iaload, 1) := by decide +kernel
theorem dX9_chop_36 : decode cX9_chop 36 = .ok (.istore_n 3, 1) := by decide +kernel
theorem dX9_chop_37 : decode cX9_chop 37 = .ok (.aload_n 0, 1) := by decide +kernel
theorem dX9_chop_38 : decode cX9_chop 38 = .ok (.getfield 7, 3) := by decide +kernel
theorem dX9_chop_41 : decode cX9_chop 41 = .ok (.iload_n 1, 1) := by decide +kernel
theorem dX9_chop_42 : decode cX9_chop 42 = .ok (.invokestatic 45, 3) := by decide +kernel
theorem dX9_chop_45 : decode cX9_chop 45 = .ok (.bipush 6, 2) := by decide +kernel
theorem dX9_chop_47 : decode cX9_chop 47 = .ok (.iadd, 1) := by decide +kernel
theorem dX9_chop_48 : decode cX9_chop 48 = .ok (.iload_n 2, 1) := by decide +kernel
theorem dX9_chop_49 : decode cX9_chop 49 = .ok (.iastore, 1) := by decide +kernel
theorem dX9_chop_50 : decode cX9_chop 50 = .ok (.aload_n 0, 1) := by decide +kernel
theorem dX9_chop_51 : decode cX9_chop 51 = .ok (.getfield 7, 3) := by decide +kernel
theorem dX9_chop_54 : decode cX9_chop 54 = .ok (.iload_n 1, 1) := by decide +kernel
theorem dX9_chop_55 : decode cX9_chop 55 = .ok (.invokestatic 45, 3) := by decide +kernel
theorem dX9_chop_58 : decode cX9_chop 58 = .ok (.bipush 7, 2) := by decide +kernel
theorem dX9_chop_60 : decode cX9_chop 60 = .ok (.iadd, 1) := by decide +kernel
theorem dX9_chop_61 : decode cX9_chop 61 = .ok (.iload_n 2, 1) := by decide +kernel
theorem dX9_chop_62 : decode cX9_chop 62 = .ok (.ifCond .ne 7, 3) := by decide +kernel
theorem dX9_chop_65 : decode cX9_chop 65 = .ok (.iconst 0, 1) := by decide +kernel
theorem dX9_chop_66 : decode cX9_chop 66 = .ok (.goto 15, 3) := by decide +kernel
theorem dX9_chop_69 : decode cX9_chop 69 = .ok (.aload_n 0, 1) := by decide +kernel
theorem dX9_chop_70 : decode cX9_chop 70 = .ok (.getfield 7, 3) := by decide +kernel
theorem dX9_chop_73 : decode cX9_chop 73 = .ok (.iload_n 1, 1) := by decide +kernel
theorem dX9_chop_74 : decode cX9_chop 74 = .ok (.invokestatic 45, 3) := by decide +kernel
theorem dX9_chop_77 : decode cX9_chop 77 = .ok (.bipush 7, 2) := by decide +kernel
theorem dX9_chop_79 : decode cX9_chop 79 = .ok (.iadd, 1) := by decide +kernel
theorem dX9_chop_80 : decode cX9_chop 80 = .ok (.iaload, 1) := by decide +kernel
theorem dX9_chop_81 : decode cX9_chop 81 = .ok (.iastore, 1) := by decide +kernel
theorem dX9_chop_82 : decode cX9_chop 82 = .ok (.iload_n 3, 1) := by decide +kernel
theorem dX9_chop_83 : decode cX9_chop 83 = .ok (.ireturn, 1) := by decide +kernel
set_option maxRecDepth 20000 in
theorem ggX9_go_X9_in : GoodIn wsX9_go wsX9_in := goodIn_r _ [9] (by decide +kernel) (by decide +kernel)
set_option maxRecDepth 20000 in
theorem gX9_go_X9_in : GoodIn wsX9_go (va_wsS RX9 33 yX9_in wsX9_in) := goodIn_app (goodIn_of _ (by decide +kernel)) ggX9_go_X9_in
set_option maxRecDepth 20000 in
theorem ggX9_go_X9_records : GoodIn wsX9_go wsX9_records := goodIn_r _ [13, 14, 15, 16, 3, 17, 78, 79, 80, 81, 82, 83, 84, 85, 86, 87, 88, 89, 90] (by decide +kernel) (by decide +kernel)
set_option maxRecDepth 20000 in
theorem gX9_go_X9_records : GoodIn wsX9_go (wsV RX9 113 RX9 yX9_records wsX9_records) := goodIn_app (goodIn_of _ (by decide +kernel)) ggX9_go_X9_records
set_option maxRecDepth 20000 in
theorem ggX9_go_X9_goes : GoodIn wsX9_go wsX9_goes := goodIn_r _ [21, 3, 17, 22, 23, 24, 8, 25, 26, 27, 28, 29, 30, 31, 32, 33, 34, 35, 36, 37, 38, 39, 40, 41, 42, 43, 44, 45, 46, 47, 48, 49, 50, 51, 52, 53, 54, 55, 56, 1, 57, 58, 59, 60, 61, 62, 63, 64, 65, 66, 67, 68, 69, 70, 71, 72, 73, 74, 75, 76, 77, 78, 79, 80, 81, 82, 83, 84, 85, 86, 87, 88, 89, 90] (by decide +kernel) (by decide +kernel)
set_option maxRecDepth 20000 in
theorem gX9_go_X9_goes : GoodIn wsX9_go (wsV RX9 130 RX9 yX9_goes wsX9_goes) := goodIn_app (goodIn_of _ (by decide +kernel)) ggX9_go_X9_goes
theorem dX9_go_0 : decode cX9_go 0 = .ok (.iload_n 1, 1) := by decide +kernel
theorem dX9_go_1 : decode cX9_go 1 = .ok (.i2l, 1) := by decide +kernel
theorem dX9_go_2 : decode cX9_go 2 = .ok (.lconst 1, 1) := by decide +kernel
theorem dX9_go_3 : decode cX9_go 3 = .ok (.ldc2_w 67, 3) := by decide +kernel
theorem dX9_go_6 : decode cX9_go 6 = .ok (.invokestatic 33, 3) := by decide +kernel
theorem dX9_go_9 : decode cX9_go 9 = .ok (.ifCond .ne 6, 3) := by decide +kernel
theorem dX9_go_12 : decode cX9_go 12 = .ok (.ldc 112, 2) := by decide +kernel
theorem dX9_go_14 : decode cX9_go 14 = .ok (.ireturn, 1) := by decide +kernel
theorem dX9_go_15 : decode cX9_go 15 = .ok (.aload_n 0, 1) := by decide +kernel
theorem dX9_go_16 : decode cX9_go 16 = .ok (.getfield 7, 3) := by decide +kernel
theorem dX9_go_19 : decode cX9_go 19 = .ok (.iconst 0, 1) := by decide +kernel
theorem dX9_go_20 : decode cX9_go 20 = .ok (.iaload, 1) := by decide +kernel
theorem dX9_go_21 : decode cX9_go 21 = .ok (.iload_n 1, 1) := by decide +kernel
theorem dX9_go_22 : decode cX9_go 22 = .ok (.iadd, 1) := by decide +kernel
theorem dX9_go_23 : decode cX9_go 23 = .ok (.ldc 128, 2) := by decide +kernel
theorem dX9_go_25 : decode cX9_go 25 = .ok (.if_icmp .le 6, 3) := by decide +kernel
theorem dX9_go_28 : decode cX9_go 28 = .ok (.ldc 129, 2) := by decide +kernel
theorem dX9_go_30 : decode cX9_go 30 = .ok (.ireturn, 1) := by decide +kernel
theorem dX9_go_31 : decode cX9_go 31 = .ok (.aload_n 0, 1) := by decide +kernel
theorem dX9_go_32 : decode cX9_go 32 = .ok (.invokevirtual 113, 3) := by decide +kernel
theorem dX9_go_35 : decode cX9_go 35 = .ok (.iconst 0, 1) := by decide +kernel
theorem dX9_go_36 : decode cX9_go 36 = .ok (.istore_n 2, 1) := by decide +kernel
theorem dX9_go_37 : decode cX9_go 37 = .ok (.iconst 0, 1) := by decide +kernel
theorem dX9_go_38 : decode cX9_go 38 = .ok (.istore_n 3, 1) := by decide +kernel
theorem dX9_go_39 : decode cX9_go 39 = .ok (.iload_n 3, 1) := by decide +kernel
theorem dX9_go_40 : decode cX9_go 40 = .ok (.iload_n 1, 1) := by decide +kernel
theorem dX9_go_41 : decode cX9_go 41 = .ok (.if_icmp .ge 16, 3) := by decide +kernel
theorem dX9_go_44 : decode cX9_go 44 = .ok (.iload_n 2, 1) := by decide +kernel
theorem dX9_go_45 : decode cX9_go 45 = .ok (.aload_n 0, 1) := by decide +kernel
theorem dX9_go_46 : decode cX9_go 46 = .ok (.invokevirtual 130, 3) := by decide +kernel
theorem dX9_go_49 : decode cX9_go 49 = .ok (.iadd, 1) := by decide +kernel
theorem dX9_go_50 : decode cX9_go 50 = .ok (.istore_n 2, 1) := by decide +kernel
theorem dX9_go_51 : decode cX9_go 51 = .ok (.iinc 3 1, 3) := by decide +kernel
theorem dX9_go_54 : decode cX9_go 54 = .ok (.goto (-15), 3) := by decide +kernel
theorem dX9_go_57 : decode cX9_go 57 = .ok (.iload_n 2, 1) := by decide +kernel
theorem dX9_go_58 : decode cX9_go 58 = .ok (.ireturn, 1) := by decide +kernel
set_option maxRecDepth 20000 in
theorem ggX9_placeOf_X9_isLatched : GoodIn wsX9_placeOf wsX9_isLatched := goodIn_r _ [6, 1, 7, 8, 5, 9, 10, 11, 12, 13, 14, 15, 16, 17, 18, 19, 20, 21, 22] (by decide +kernel) (by decide +kernel)
set_option maxRecDepth 20000 in
theorem gX9_placeOf_X9_isLatched : GoodIn wsX9_placeOf (wsV RX9 49 RX9 yX9_isLatched wsX9_isLatched) := goodIn_app (goodIn_of _ (by decide +kernel)) ggX9_placeOf_X9_isLatched
set_option maxRecDepth 20000 in
theorem ggX9_placeOf_X9_loadAt : GoodIn wsX9_placeOf wsX9_loadAt := goodIn_r _ [9] (by decide +kernel) (by decide +kernel)
set_option maxRecDepth 20000 in
theorem gX9_placeOf_X9_loadAt : GoodIn wsX9_placeOf (va_wsS RX9 45 yX9_loadAt wsX9_loadAt) := goodIn_app (goodIn_of _ (by decide +kernel)) ggX9_placeOf_X9_loadAt
theorem dX9_placeOf_0 : decode cX9_placeOf 0 = .ok (.iconst 0, 1) := by decide +kernel
theorem dX9_placeOf_1 : decode cX9_placeOf 1 = .ok (.istore_n 3, 1) := by decide +kernel
theorem dX9_placeOf_2 : decode cX9_placeOf 2 = .ok (.iconst 0, 1) := by decide +kernel
theorem dX9_placeOf_3 : decode cX9_placeOf 3 = .ok (.istore 4, 2) := by decide +kernel
theorem dX9_placeOf_5 : decode cX9_placeOf 5 = .ok (.iload 4, 2) := by decide +kernel
theorem dX9_placeOf_7 : decode cX9_placeOf 7 = .ok (.iconst 3, 1) := by decide +kernel
theorem dX9_placeOf_8 : decode cX9_placeOf 8 = .ok (.if_icmp .ge 67, 3) := by decide +kernel
theorem dX9_placeOf_11 : decode cX9_placeOf 11 = .ok (.iload_n 3, 1) := by decide +kernel
theorem dX9_placeOf_12 : decode cX9_placeOf 12 = .ok (.aload_n 0, 1) := by decide +kernel
theorem dX9_placeOf_13 : decode cX9_placeOf 13 = .ok (.iload_n 1, 1) := by decide +kernel
theorem dX9_placeOf_14 : decode cX9_placeOf 14 = .ok (.iload 4, 2) := by decide +kernel
theorem dX9_placeOf_16 : decode cX9_placeOf 16 = .ok (.invokevirtual 49, 3) := by decide +kernel
theorem dX9_placeOf_19 : decode cX9_placeOf 19 = .ok (.ifCond .eq 47, 3) := by decide +kernel
theorem dX9_placeOf_22 : decode cX9_placeOf 22 = .ok (.aload_n 0, 1) := by decide +kernel
theorem dX9_placeOf_23 : decode cX9_placeOf 23 = .ok (.getfield 7, 3) := by decide +kernel
theorem dX9_placeOf_26 : decode cX9_placeOf 26 = .ok (.iload_n 1, 1) := by decide +kernel
theorem dX9_placeOf_27 : decode cX9_placeOf 27 = .ok (.invokestatic 45, 3) := by decide +kernel
theorem dX9_placeOf_30 : decode cX9_placeOf 30 = .ok (.bipush 12, 2) := by decide +kernel
theorem dX9_placeOf_32 : decode cX9_placeOf 32 = .ok (.iadd, 1) := by decide +kernel
theorem dX9_placeOf_33 : decode cX9_placeOf 33 = .ok (.iconst 3, 1) := by decide +kernel
theorem dX9_placeOf_34 : decode cX9_placeOf 34 = .ok (.iload 4, 2) := by decide +kernel
theorem dX9_placeOf_36 : decode cX9_placeOf 36 = .ok (.imul, 1) := by decide +kernel
theorem dX9_placeOf_37 : decode cX9_placeOf 37 = .ok (.iadd, 1) := by decide +kernel
theorem dX9_placeOf_38 : decode cX9_placeOf 38 = .ok (.iconst 2, 1) := by decide +kernel
theorem dX9_placeOf_39 : decode cX9_placeOf 39 = .ok (.iadd, 1) := by decide +kernel
theorem dX9_placeOf_40 : decode cX9_placeOf 40 = .ok (.iaload, 1) := by decide +kernel
theorem dX9_placeOf_41 : decode cX9_placeOf 41 = .ok (.aload_n 0, 1) := by decide +kernel
theorem dX9_placeOf_42 : decode cX9_placeOf 42 = .ok (.getfield 7, 3) := by decide +kernel
theorem dX9_placeOf_45 : decode cX9_placeOf 45 = .ok (.iload_n 1, 1) := by decide +kernel
theorem dX9_placeOf_46 : decode cX9_placeOf 46 = .ok (.invokestatic 45, 3) := by decide +kernel
theorem dX9_placeOf_49 : decode cX9_placeOf 49 = .ok (.bipush 12, 2) := by decide +kernel
theorem dX9_placeOf_51 : decode cX9_placeOf 51 = .ok (.iadd, 1) := by decide +kernel
theorem dX9_placeOf_52 : decode cX9_placeOf 52 = .ok (.iconst 3, 1) := by decide +kernel
theorem dX9_placeOf_53 : decode cX9_placeOf 53 = .ok (.iload_n 2, 1) := by decide +kernel
theorem dX9_placeOf_54 : decode cX9_placeOf 54 = .ok (.imul, 1) := by decide +kernel
theorem dX9_placeOf_55 : decode cX9_placeOf 55 = .ok (.iadd, 1) := by decide +kernel
theorem dX9_placeOf_56 : decode cX9_placeOf 56 = .ok (.iconst 2, 1) := by decide +kernel
theorem dX9_placeOf_57 : decode cX9_placeOf 57 = .ok (.iadd, 1) := by decide +kernel
theorem dX9_placeOf_58 : decode cX9_placeOf 58 = .ok (.iaload, 1) := by decide +kernel
theorem dX9_placeOf_59 : decode cX9_placeOf 59 = .ok (.if_icmp .ge 7, 3) := by decide +kernel
theorem dX9_placeOf_62 : decode cX9_placeOf 62 = .ok (.iconst 1, 1) := by decide +kernel
theorem dX9_placeOf_63 : decode cX9_placeOf 63 = .ok (.goto 4, 3) := by decide +kernel
theorem dX9_placeOf_66 : decode cX9_placeOf 66 = .ok (.iconst 0, 1) := by decide +kernel
theorem dX9_placeOf_67 : decode cX9_placeOf 67 = .ok (.iadd, 1) := by decide +kernel
theorem dX9_placeOf_68 : decode cX9_placeOf 68 = .ok (.istore_n 3, 1) := by decide +kernel
theorem dX9_placeOf_69 : decode cX9_placeOf 69 = .ok (.iinc 4 1, 3) := by decide +kernel
theorem dX9_placeOf_72 : decode cX9_placeOf 72 = .ok (.goto (-67), 3) := by decide +kernel
theorem dX9_placeOf_75 : decode cX9_placeOf 75 = .ok (.iload_n 3, 1) := by decide +kernel
theorem dX9_placeOf_76 : decode cX9_placeOf 76 = .ok (.ireturn, 1) := by decide +kernel
set_option maxRecDepth 20000 in
theorem ggX9_canClear_X9_isLatched : GoodIn wsX9_canClear wsX9_isLatched := goodIn_r _ [6, 1, 7, 8, 5, 9, 18, 19, 20, 21, 22, 23, 24, 25, 26, 27, 28, 29, 30] (by decide +kernel) (by decide +kernel)
set_option maxRecDepth 20000 in
theorem gX9_canClear_X9_isLatched : GoodIn wsX9_canClear (wsV RX9 49 RX9 yX9_isLatched wsX9_isLatched) := goodIn_app (goodIn_of _ (by decide +kernel)) ggX9_canClear_X9_isLatched
set_option maxRecDepth 20000 in
theorem ggX9_canClear_X9_placeOf : GoodIn wsX9_canClear wsX9_placeOf := goodIn_r _ [13, 1, 2, 3, 4, 5, 6, 7, 8, 9, 18, 19, 20, 21, 22, 23, 24, 25, 26, 27, 28, 29, 30] (by decide +kernel) (by decide +kernel)
set_option maxRecDepth 20000 in
theorem gX9_canClear_X9_placeOf : GoodIn wsX9_canClear (wsV RX9 134 RX9 yX9_placeOf wsX9_placeOf) := goodIn_app (goodIn_of _ (by decide +kernel)) ggX9_canClear_X9_placeOf
set_option maxRecDepth 20000 in
theorem ggX9_canClear_X9_sizeOf : GoodIn wsX9_canClear wsX9_sizeOf := goodIn_r _ [17, 1, 7, 8, 5, 9, 18, 19, 20, 21, 22, 23, 24, 25, 26, 27, 28, 29, 30] (by decide +kernel) (by decide +kernel)
set_option maxRecDepth 20000 in
theorem gX9_canClear_X9_sizeOf : GoodIn wsX9_canClear (wsV RX9 64 RX9 yX9_sizeOf wsX9_sizeOf) := goodIn_app (goodIn_of _ (by decide +kernel)) ggX9_canClear_X9_sizeOf
set_option maxRecDepth 20000 in
theorem ggX9_canClear_X9_loadAt : GoodIn wsX9_canClear wsX9_loadAt := goodIn_r _ [9] (by decide +kernel) (by decide +kernel)
set_option maxRecDepth 20000 in
theorem gX9_canClear_X9_loadAt : GoodIn wsX9_canClear (va_wsS RX9 45 yX9_loadAt wsX9_loadAt) := goodIn_app (goodIn_of _ (by decide +kernel)) ggX9_canClear_X9_loadAt
theorem dX9_canClear_0 : decode cX9_canClear 0 = .ok (.aload_n 0, 1) := by decide +kernel
theorem dX9_canClear_1 : decode cX9_canClear 1 = .ok (.iload_n 1, 1) := by decide +kernel
theorem dX9_canClear_2 : decode cX9_canClear 2 = .ok (.iload_n 2, 1) := by decide +kernel
theorem dX9_canClear_3 : decode cX9_canClear 3 = .ok (.invokevirtual 49, 3) := by decide +kernel
theorem dX9_canClear_6 : decode cX9_canClear 6 = .ok (.ifCond .eq 12, 3) := by decide +kernel
theorem dX9_canClear_9 : decode cX9_canClear 9 = .ok (.aload_n 0, 1) := by decide +kernel
theorem dX9_canClear_10 : decode cX9_canClear 10 = .ok (.iload_n 1, 1) := by decide +kernel
theorem dX9_canClear_11 : decode cX9_canClear 11 = .ok (.iload_n 2, 1) := by decide +kernel
theorem dX9_canClear_12 : decode cX9_canClear 12 = .ok (.invokevirtual 134, 3) := by decide +kernel
theorem dX9_canClear_15 : decode cX9_canClear 15 = .ok (.ifCond .le 5, 3) := by decide +kernel
theorem dX9_canClear_18 : decode cX9_canClear 18 = .ok (.iconst 0, 1) := by decide +kernel
theorem dX9_canClear_19 : decode cX9_canClear 19 = .ok (.ireturn, 1) := by decide +kernel
theorem dX9_canClear_20 : decode cX9_canClear 20 = .ok (.iload_n 2, 1) := by decide +kernel
theorem dX9_canClear_21 : decode cX9_canClear 21 = .ok (.ifCond .ne 25, 3) := by decide +kernel
theorem dX9_canClear_24 : decode cX9_canClear 24 = .ok (.aload_n 0, 1) := by decide +kernel
theorem dX9_canClear_25 : decode cX9_canClear 25 = .ok (.iload_n 1, 1) := by decide +kernel
theorem dX9_canClear_26 : decode cX9_canClear 26 = .ok (.invokevirtual 64, 3) := by decide +kernel
theorem dX9_canClear_29 : decode cX9_canClear 29 = .ok (.aload_n 0, 1) := by decide +kernel
theorem dX9_canClear_30 : decode cX9_canClear 30 = .ok (.getfield 7, 3) := by decide +kernel
theorem dX9_canClear_33 : decode cX9_canClear 33 = .ok (.iconst 3, 1) := by decide +kernel
theorem dX9_canClear_34 : decode cX9_canClear 34 = .ok (.iaload, 1) := by decide +kernel
theorem dX9_canClear_35 : decode cX9_canClear 35 = .ok (.if_icmp .ge 7, 3) := by decide +kernel
theorem dX9_canClear_38 : decode cX9_canClear 38 = .ok (.iconst 1, 1) := by decide +kernel
theorem dX9_canClear_39 : decode cX9_canClear 39 = .ok (.goto 39, 3) := by decide +kernel
theorem dX9_canClear_42 : decode cX9_canClear 42 = .ok (.iconst 0, 1) := by decide +kernel
theorem dX9_canClear_43 : decode cX9_canClear 43 = .ok (.goto 35, 3) := by decide +kernel
theorem dX9_canClear_46 : decode cX9_canClear 46 = .ok (.iload_n 2, 1) := by decide +kernel
theorem dX9_canClear_47 : decode cX9_canClear 47 = .ok (.iconst 1, 1) := by decide +kernel
theorem dX9_canClear_48 : decode cX9_canClear 48 = .ok (.if_icmp .eq 25, 3) := by decide +kernel
theorem dX9_canClear_51 : decode cX9_canClear 51 = .ok (.aload_n 0, 1) := by decide +kernel
theorem dX9_canClear_52 : decode cX9_canClear 52 = .ok (.getfield 7, 3) := by decide +kernel
theorem dX9_canClear_55 : decode cX9_canClear 55 = .ok (.iload_n 1, 1) := by decide +kernel
theorem dX9_canClear_56 : decode cX9_canClear 56 = .ok (.invokestatic 45, 3) := by decide +kernel
theorem dX9_canClear_59 : decode cX9_canClear 59 = .ok (.iconst 5, 1) := by decide +kernel
theorem dX9_canClear_60 : decode cX9_canClear 60 = .ok (.iadd, 1) := by decide +kernel
theorem dX9_canClear_61 : decode cX9_canClear 61 = .ok (.iaload, 1) := by decide +kernel
theorem dX9_canClear_62 : decode cX9_canClear 62 = .ok (.aload_n 0, 1) := by decide +kernel
theorem dX9_canClear_63 : decode cX9_canClear 63 = .ok (.getfield 7, 3) := by decide +kernel
theorem dX9_canClear_66 : decode cX9_canClear 66 = .ok (.iconst 5, 1) := by decide +kernel
theorem dX9_canClear_67 : decode cX9_canClear 67 = .ok (.iaload, 1) := by decide +kernel
theorem dX9_canClear_68 : decode cX9_canClear 68 = .ok (.iconst 2, 1) := by decide +kernel
theorem dX9_canClear_69 : decode cX9_canClear 69 = .ok (.idiv, 1) := by decide +kernel
theorem dX9_canClear_70 : decode cX9_canClear 70 = .ok (.if_icmp .gt 7, 3) := by decide +kernel
theorem dX9_canClear_73 : decode cX9_canClear 73 = .ok (.iconst 1, 1) := by decide +kernel
theorem dX9_canClear_74 : decode cX9_canClear 74 = .ok (.goto 4, 3) := by decide +kernel
theorem dX9_canClear_77 : decode cX9_canClear 77 = .ok (.iconst 0, 1) := by decide +kernel
theorem dX9_canClear_78 : decode cX9_canClear 78 = .ok (.ireturn, 1) := by decide +kernel
set_option maxRecDepth 20000 in
theorem ggX9_clear_X9_isLoad : GoodIn wsX9_clear wsX9_isLoad := goodIn_r _ [8, 9, 10, 7, 11] (by decide +kernel) (by decide +kernel)
set_option maxRecDepth 20000 in
theorem gX9_clear_X9_isLoad : GoodIn wsX9_clear (va_wsS RX9 118 yX9_isLoad wsX9_isLoad) := goodIn_app (goodIn_of _ (by decide +kernel)) ggX9_clear_X9_isLoad
set_option maxRecDepth 20000 in
theorem ggX9_clear_X9_in : GoodIn wsX9_clear wsX9_in := goodIn_r _ [11] (by decide +kernel) (by decide +kernel)
set_option maxRecDepth 20000 in
theorem gX9_clear_X9_in : GoodIn wsX9_clear (va_wsS RX9 33 yX9_in wsX9_in) := goodIn_app (goodIn_of _ (by decide +kernel)) ggX9_clear_X9_in
set_option maxRecDepth 20000 in
theorem ggX9_clear_X9_canClear : GoodIn wsX9_clear wsX9_canClear := goodIn_r _ [15, 4, 16, 17, 18, 7, 19, 20, 21, 22, 23, 24, 25, 26, 27, 28, 29, 30, 43, 44, 45, 46, 47, 48, 49, 50, 51, 52, 53, 54, 55] (by decide +kernel) (by decide +kernel)
set_option maxRecDepth 20000 in
theorem gX9_clear_X9_canClear : GoodIn wsX9_clear (wsV RX9 137 RX9 yX9_canClear wsX9_canClear) := goodIn_app (goodIn_of _ (by decide +kernel)) ggX9_clear_X9_canClear
set_option maxRecDepth 20000 in
theorem ggX9_clear_X9_records : GoodIn wsX9_clear wsX9_records := goodIn_r _ [34, 35, 36, 37, 4, 38, 43, 44, 45, 46, 47, 48, 49, 50, 51, 52, 53, 54, 55] (by decide +kernel) (by decide +kernel)
set_option maxRecDepth 20000 in
theorem gX9_clear_X9_records : GoodIn wsX9_clear (wsV RX9 113 RX9 yX9_records wsX9_records) := goodIn_app (goodIn_of _ (by decide +kernel)) ggX9_clear_X9_records
set_option maxRecDepth 20000 in
theorem ggX9_clear_X9_loadAt : GoodIn wsX9_clear wsX9_loadAt := goodIn_r _ [22] (by decide +kernel) (by decide +kernel)
set_option maxRecDepth 20000 in
theorem gX9_clear_X9_loadAt : GoodIn wsX9_clear (va_wsS RX9 45 yX9_loadAt wsX9_loadAt) := goodIn_app (goodIn_of _ (by decide +kernel)) ggX9_clear_X9_loadAt
set_option maxRecDepth 20000 in
theorem ggX9_clear_X9_latched : GoodIn wsX9_clear wsX9_latched := goodIn_r _ [42, 16, 17, 18, 7, 19, 4, 20, 21, 22, 43, 44, 45, 46, 47, 48, 49, 50, 51, 52, 53, 54, 55] (by decide +kernel) (by decide +kernel)
set_option maxRecDepth 20000 in
theorem gX9_clear_X9_latched : GoodIn wsX9_clear (wsV RX9 53 RX9 yX9_latched wsX9_latched) := goodIn_app (goodIn_of _ (by decide +kernel)) ggX9_clear_X9_latched
theorem dX9_clear_0 : decode cX9_clear 0 = .ok (.iload_n 1, 1) := by decide +kernel
theorem dX9_clear_1 : decode cX9_clear 1 = .ok (.invokestatic 118, 3) := by decide +kernel
theorem dX9_clear_4 : decode cX9_clear 4 = .ok (.ifCond .eq 15, 3) := by decide +kernel
theorem dX9_clear_7 : decode cX9_clear 7 = .ok (.iload_n 2, 1) := by decide +kernel
theorem dX9_clear_8 : decode cX9_clear 8 = .ok (.i2l, 1) := by decide +kernel
theorem dX9_clear_9 : decode cX9_clear 9 = .ok (.lconst 0, 1) := by decide +kernel
theorem dX9_clear_10 : decode cX9_clear 10 = .ok (.ldc2_w 103, 3) := by decide +kernel
theorem dX9_clear_13 : decode cX9_clear 13 = .ok (.invokestatic 33, 3) := by decide +kernel
theorem dX9_clear_16 : decode cX9_clear 16 = .ok (.ifCond .ne 6, 3) := by decide +kernel
theorem dX9_clear_19 : decode cX9_clear 19 = .ok (.ldc 112, 2) := by decide +kernel
theorem dX9_clear_21 : decode cX9_clear 21 = .ok (.ireturn, 1) := by decide +kernel
theorem dX9_clear_22 : decode cX9_clear 22 = .ok (.aload_n 0, 1) := by decide +kernel
theorem dX9_clear_23 : decode cX9_clear 23 = .ok (.iload_n 1, 1) := by decide +kernel
theorem dX9_clear_24 : decode cX9_clear 24 = .ok (.iload_n 2, 1) := by decide +kernel
theorem dX9_clear_25 : decode cX9_clear 25 = .ok (.invokevirtual 137, 3) := by decide +kernel
theorem dX9_clear_28 : decode cX9_clear 28 = .ok (.ifCond .ne 6, 3) := by decide +kernel
theorem dX9_clear_31 : decode cX9_clear 31 = .ok (.ldc 140, 2) := by decide +kernel
theorem dX9_clear_33 : decode cX9_clear 33 = .ok (.ireturn, 1) := by decide +kernel
theorem dX9_clear_34 : decode cX9_clear 34 = .ok (.aload_n 0, 1) := by decide +kernel
theorem dX9_clear_35 : decode cX9_clear 35 = .ok (.invokevirtual 113, 3) := by decide +kernel
theorem dX9_clear_38 : decode cX9_clear 38 = .ok (.aload_n 0, 1) := by decide +kernel
theorem dX9_clear_39 : decode cX9_clear 39 = .ok (.getfield 7, 3) := by decide +kernel
theorem dX9_clear_42 : decode cX9_clear 42 = .ok (.iload_n 1, 1) := by decide +kernel
theorem dX9_clear_43 : decode cX9_clear 43 = .ok (.invokestatic 45, 3) := by decide +kernel
theorem dX9_clear_46 : decode cX9_clear 46 = .ok (.bipush 12, 2) := by decide +kernel
theorem dX9_clear_48 : decode cX9_clear 48 = .ok (.iadd, 1) := by decide +kernel
theorem dX9_clear_49 : decode cX9_clear 49 = .ok (.iconst 3, 1) := by decide +kernel
theorem dX9_clear_50 : decode cX9_clear 50 = .ok (.iload_n 2, 1) := by decide +kernel
theorem dX9_clear_51 : decode cX9_clear 51 = .ok (.imul, 1) := by decide +kernel
theorem dX9_clear_52 : decode cX9_clear 52 = .ok (.iadd, 1) := by decide +kernel
theorem dX9_clear_53 : decode cX9_clear 53 = .ok (.iconst (-1), 1) := by decide +kernel
theorem dX9_clear_54 : decode cX9_clear 54 = .ok (.iastore, 1) := by decide +kernel
theorem dX9_clear_55 : decode cX9_clear 55 = .ok (.aload_n 0, 1) := by decide +kernel
theorem dX9_clear_56 : decode cX9_clear 56 = .ok (.iload_n 1, 1) := by decide +kernel
theorem dX9_clear_57 : decode cX9_clear 57 = .ok (.invokevirtual 53, 3) := by decide +kernel
theorem dX9_clear_60 : decode cX9_clear 60 = .ok (.ireturn, 1) := by decide +kernel
theorem dX9_undo_0 : decode cX9_undo 0 = .ok (.aload_n 0, 1) := by decide +kernel
theorem dX9_undo_1 : decode cX9_undo 1 = .ok (.getfield 37, 3) := by decide +kernel
theorem dX9_undo_4 : decode cX9_undo 4 = .ok (.ifCond .ne 6, 3) := by decide +kernel
theorem dX9_undo_7 : decode cX9_undo 7 = .ok (.ldc 140, 2) := by decide +kernel
theorem dX9_undo_9 : decode cX9_undo 9 = .ok (.ireturn, 1) := by decide +kernel
theorem dX9_undo_10 : decode cX9_undo 10 = .ok (.aload_n 0, 1) := by decide +kernel
theorem dX9_undo_11 : decode cX9_undo 11 = .ok (.dup, 1) := by decide +kernel
theorem dX9_undo_12 : decode cX9_undo 12 = .ok (.getfield 37, 3) := by decide +kernel
theorem dX9_undo_15 : decode cX9_undo 15 = .ok (.iconst 1, 1) := by decide +kernel
theorem dX9_undo_16 : decode cX9_undo 16 = .ok (.isub, 1) := by decide +kernel
theorem dX9_undo_17 : decode cX9_undo 17 = .ok (.putfield 37, 3) := by decide +kernel
theorem dX9_undo_20 : decode cX9_undo 20 = .ok (.iconst 0, 1) := by decide +kernel
theorem dX9_undo_21 : decode cX9_undo 21 = .ok (.istore_n 1, 1) := by decide +kernel
theorem dX9_undo_22 : decode cX9_undo 22 = .ok (.iload_n 1, 1) := by decide +kernel
theorem dX9_undo_23 : decode cX9_undo 23 = .ok (.sipush 270, 3) := by decide +kernel
theorem dX9_undo_26 : decode cX9_undo 26 = .ok (.if_icmp .ge 30, 3) := by decide +kernel
theorem dX9_undo_29 : decode cX9_undo 29 = .ok (.aload_n 0, 1) := by decide +kernel
theorem dX9_undo_30 : decode cX9_undo 30 = .ok (.getfield 7, 3) := by decide +kernel
theorem dX9_undo_33 : decode cX9_undo 33 = .ok (.iload_n 1, 1) := by decide +kernel
theorem dX9_undo_34 : decode cX9_undo 34 = .ok (.aload_n 0, 1) := by decide +kernel
theorem dX9_undo_35 : decode cX9_undo 35 = .ok (.getfield 13, 3) := by decide +kernel
theorem dX9_undo_38 : decode cX9_undo 38 = .ok (.sipush 270, 3) := by decide +kernel
theorem dX9_undo_41 : decode cX9_undo 41 = .ok (.aload_n 0, 1) := by decide +kernel
theorem dX9_undo_42 : decode cX9_undo 42 = .ok (.getfield 37, 3) := by decide +kernel
theorem dX9_undo_45 : decode cX9_undo 45 = .ok (.imul, 1) := by decide +kernel
theorem dX9_undo_46 : decode cX9_undo 46 = .ok (.iload_n 1, 1) := by decide +kernel
theorem dX9_undo_47 : decode cX9_undo 47 = .ok (.iadd, 1) := by decide +kernel
theorem dX9_undo_48 : decode cX9_undo 48 = .ok (.iaload, 1) := by decide +kernel
theorem dX9_undo_49 : decode cX9_undo 49 = .ok (.iastore, 1) := by decide +kernel
theorem dX9_undo_50 : decode cX9_undo 50 = .ok (.iinc 1 1, 3) := by decide +kernel
theorem dX9_undo_53 : decode cX9_undo 53 = .ok (.goto (-31), 3) := by decide +kernel
theorem dX9_undo_56 : decode cX9_undo 56 = .ok (.aload_n 0, 1) := by decide +kernel
theorem dX9_undo_57 : decode cX9_undo 57 = .ok (.aload_n 0, 1) := by decide +kernel
theorem dX9_undo_58 : decode cX9_undo 58 = .ok (.getfield 16, 3) := by decide +kernel
theorem dX9_undo_61 : decode cX9_undo 61 = .ok (.aload_n 0, 1) := by decide +kernel
theorem dX9_undo_62 : decode cX9_undo 62 = .ok (.getfield 37, 3) := by decide +kernel
theorem dX9_undo_65 : decode cX9_undo 65 = .ok (.laload, 1) := by decide +kernel
theorem dX9_undo_66 : decode cX9_undo 66 = .ok (.putfield 41, 3) := by decide +kernel
theorem dX9_undo_69 : decode cX9_undo 69 = .ok (.aload_n 0, 1) := by decide +kernel
theorem dX9_undo_70 : decode cX9_undo 70 = .ok (.getfield 37, 3) := by decide +kernel
theorem dX9_undo_73 : decode cX9_undo 73 = .ok (.ireturn, 1) := by decide +kernel
set_option maxRecDepth 20000 in
theorem ggX9_count_X9_in : GoodIn wsX9_count wsX9_in := goodIn_r _ [11] (by decide +kernel) (by decide +kernel)
set_option maxRecDepth 20000 in
theorem gX9_count_X9_in : GoodIn wsX9_count (va_wsS RX9 33 yX9_in wsX9_in) := goodIn_app (goodIn_of _ (by decide +kernel)) ggX9_count_X9_in
set_option maxRecDepth 20000 in
theorem ggX9_count_X9_latched : GoodIn wsX9_count wsX9_latched := goodIn_r _ [15, 16, 17, 18, 10, 19, 3, 20, 21, 22, 23, 24, 25, 26, 27, 28, 29, 30, 31, 32, 33, 34, 35] (by decide +kernel) (by decide +kernel)
set_option maxRecDepth 20000 in
theorem gX9_count_X9_latched : GoodIn wsX9_count (wsV RX9 53 RX9 yX9_latched wsX9_latched) := goodIn_app (goodIn_of _ (by decide +kernel)) ggX9_count_X9_latched
theorem dX9_count_0 : decode cX9_count 0 = .ok (.iload_n 1, 1) := by decide +kernel
theorem dX9_count_1 : decode cX9_count 1 = .ok (.i2l, 1) := by decide +kernel
theorem dX9_count_2 : decode cX9_count 2 = .ok (.ldc2_w 141, 3) := by decide +kernel
theorem dX9_count_5 : decode cX9_count 5 = .ok (.ldc2_w 143, 3) := by decide +kernel
theorem dX9_count_8 : decode cX9_count 8 = .ok (.invokestatic 33, 3) := by decide +kernel
theorem dX9_count_11 : decode cX9_count 11 = .ok (.ifCond .eq 16, 3) := by decide +kernel
theorem dX9_count_14 : decode cX9_count 14 = .ok (.aload_n 0, 1) := by decide +kernel
theorem dX9_count_15 : decode cX9_count 15 = .ok (.getfield 7, 3) := by decide +kernel
theorem dX9_count_18 : decode cX9_count 18 = .ok (.iconst 1, 1) := by decide +kernel
theorem dX9_count_19 : decode cX9_count 19 = .ok (.iload_n 1, 1) := by decide +kernel
theorem dX9_count_20 : decode cX9_count 20 = .ok (.iadd, 1) := by decide +kernel
theorem dX9_count_21 : decode cX9_count 21 = .ok (.bipush 10, 2) := by decide +kernel
theorem dX9_count_23 : decode cX9_count 23 = .ok (.isub, 1) := by decide +kernel
theorem dX9_count_24 : decode cX9_count 24 = .ok (.iaload, 1) := by decide +kernel
theorem dX9_count_25 : decode cX9_count 25 = .ok (.i2l, 1) := by decide +kernel
theorem dX9_count_26 : decode cX9_count 26 = .ok (.lreturn, 1) := by decide +kernel
theorem dX9_count_27 : decode cX9_count 27 = .ok (.iload_n 1, 1) := by decide +kernel
theorem dX9_count_28 : decode cX9_count 28 = .ok (.tableswitch 165 0 20 #[100, 108, 121, 130, 139, 148, 154, 165, 165, 165, 165, 165, 165, 165, 165, 165, 165, 165, 165, 165, 160], 100) := by decide +kernel
theorem dX9_count_128 : decode cX9_count 128 = .ok (.aload_n 0, 1) := by decide +kernel
theorem dX9_count_129 : decode cX9_count 129 = .ok (.getfield 7, 3) := by decide +kernel
theorem dX9_count_132 : decode cX9_count 132 = .ok (.iconst 0, 1) := by decide +kernel
theorem dX9_count_133 : decode cX9_count 133 = .ok (.iaload, 1) := by decide +kernel
theorem dX9_count_134 : decode cX9_count 134 = .ok (.i2l, 1) := by decide +kernel
theorem dX9_count_135 : decode cX9_count 135 = .ok (.lreturn, 1) := by decide +kernel
theorem dX9_count_136 : decode cX9_count 136 = .ok (.aload_n 0, 1) := by decide +kernel
theorem dX9_count_137 : decode cX9_count 137 = .ok (.iconst 0, 1) := by decide +kernel
theorem dX9_count_138 : decode cX9_count 138 = .ok (.invokevirtual 53, 3) := by decide +kernel
theorem dX9_count_141 : decode cX9_count 141 = .ok (.aload_n 0, 1) := by decide +kernel
theorem dX9_count_142 : decode cX9_count 142 = .ok (.iconst 1, 1) := by decide +kernel
theorem dX9_count_143 : decode cX9_count 143 = .ok (.invokevirtual 53, 3) := by decide +kernel
theorem dX9_count_146 : decode cX9_count 146 = .ok (.iadd, 1) := by decide +kernel
theorem dX9_count_147 : decode cX9_count 147 = .ok (.i2l, 1) := by decide +kernel
theorem dX9_count_148 : decode cX9_count 148 = .ok (.lreturn, 1) := by decide +kernel
theorem dX9_count_149 : decode cX9_count 149 = .ok (.aload_n 0, 1) := by decide +kernel
theorem dX9_count_150 : decode cX9_count 150 = .ok (.getfield 7, 3) := by decide +kernel
theorem dX9_count_153 : decode cX9_count 153 = .ok (.bipush 102, 2) := by decide +kernel
theorem dX9_count_155 : decode cX9_count 155 = .ok (.iaload, 1) := by decide +kernel
theorem dX9_count_156 : decode cX9_count 156 = .ok (.i2l, 1) := by decide +kernel
theorem dX9_count_157 : decode cX9_count 157 = .ok (.lreturn, 1) := by decide +kernel
theorem dX9_count_158 : decode cX9_count 158 = .ok (.aload_n 0, 1) := by decide +kernel
theorem dX9_count_159 : decode cX9_count 159 = .ok (.getfield 7, 3) := by decide +kernel
theorem dX9_count_162 : decode cX9_count 162 = .ok (.bipush 100, 2) := by decide +kernel
theorem dX9_count_164 : decode cX9_count 164 = .ok (.iaload, 1) := by decide +kernel
theorem dX9_count_165 : decode cX9_count 165 = .ok (.i2l, 1) := by decide +kernel
theorem dX9_count_166 : decode cX9_count 166 = .ok (.lreturn, 1) := by decide +kernel
theorem dX9_count_167 : decode cX9_count 167 = .ok (.aload_n 0, 1) := by decide +kernel
theorem dX9_count_168 : decode cX9_count 168 = .ok (.getfield 7, 3) := by decide +kernel
theorem dX9_count_171 : decode cX9_count 171 = .ok (.bipush 101, 2) := by decide +kernel
theorem dX9_count_173 : decode cX9_count 173 = .ok (.iaload, 1) := by decide +kernel
theorem dX9_count_174 : decode cX9_count 174 = .ok (.i2l, 1) := by decide +kernel
theorem dX9_count_175 : decode cX9_count 175 = .ok (.lreturn, 1) := by decide +kernel
theorem dX9_count_176 : decode cX9_count 176 = .ok (.aload_n 0, 1) := by decide +kernel
theorem dX9_count_177 : decode cX9_count 177 = .ok (.getfield 37, 3) := by decide +kernel
theorem dX9_count_180 : decode cX9_count 180 = .ok (.i2l, 1) := by decide +kernel
theorem dX9_count_181 : decode cX9_count 181 = .ok (.lreturn, 1) := by decide +kernel
theorem dX9_count_182 : decode cX9_count 182 = .ok (.aload_n 0, 1) := by decide +kernel
theorem dX9_count_183 : decode cX9_count 183 = .ok (.getfield 145, 3) := by decide +kernel
theorem dX9_count_186 : decode cX9_count 186 = .ok (.i2l, 1) := by decide +kernel
theorem dX9_count_187 : decode cX9_count 187 = .ok (.lreturn, 1) := by decide +kernel
theorem dX9_count_188 : decode cX9_count 188 = .ok (.aload_n 0, 1) := by decide +kernel
theorem dX9_count_189 : decode cX9_count 189 = .ok (.getfield 41, 3) := by decide +kernel
theorem dX9_count_192 : decode cX9_count 192 = .ok (.lreturn, 1) := by decide +kernel
theorem dX9_count_193 : decode cX9_count 193 = .ok (.ldc2_w 148, 3) := by decide +kernel
theorem dX9_count_196 : decode cX9_count 196 = .ok (.lreturn, 1) := by decide +kernel
set_option maxRecDepth 20000 in
theorem ggX9_leg_X9_isLeg : GoodIn wsX9_leg wsX9_isLeg := goodIn_r _ [7, 8, 9, 10, 6, 11] (by decide +kernel) (by decide +kernel)
set_option maxRecDepth 20000 in
theorem gX9_leg_X9_isLeg : GoodIn wsX9_leg (va_wsS RX9 125 yX9_isLeg wsX9_isLeg) := goodIn_app (goodIn_of _ (by decide +kernel)) ggX9_leg_X9_isLeg
set_option maxRecDepth 20000 in
theorem ggX9_leg_X9_in : GoodIn wsX9_leg wsX9_in := goodIn_r _ [11] (by decide +kernel) (by decide +kernel)
set_option maxRecDepth 20000 in
theorem gX9_leg_X9_in : GoodIn wsX9_leg (va_wsS RX9 33 yX9_in wsX9_in) := goodIn_app (goodIn_of _ (by decide +kernel)) ggX9_leg_X9_in
set_option maxRecDepth 20000 in
theorem ggX9_leg_X9_legAt : GoodIn wsX9_leg wsX9_legAt := goodIn_r _ [14] (by decide +kernel) (by decide +kernel)
set_option maxRecDepth 20000 in
theorem gX9_leg_X9_legAt : GoodIn wsX9_leg (va_wsS RX9 56 yX9_legAt wsX9_legAt) := goodIn_app (goodIn_of _ (by decide +kernel)) ggX9_leg_X9_legAt
set_option maxRecDepth 20000 in
theorem ggX9_leg_X9_wish : GoodIn wsX9_leg wsX9_wish := goodIn_r _ [18, 3, 19, 20, 21, 6, 22, 23, 24, 25, 26, 27, 28, 29, 12, 13, 14, 30, 31, 32, 33, 34, 35, 36, 37, 38, 39, 40, 41, 42] (by decide +kernel) (by decide +kernel)
set_option maxRecDepth 20000 in
theorem gX9_leg_X9_wish : GoodIn wsX9_leg (wsV RX9 74 RX9 yX9_wish wsX9_wish) := goodIn_app (goodIn_of _ (by decide +kernel)) ggX9_leg_X9_wish
theorem dX9_leg_0 : decode cX9_leg 0 = .ok (.iload_n 1, 1) := by decide +kernel
theorem dX9_leg_1 : decode cX9_leg 1 = .ok (.invokestatic 125, 3) := by decide +kernel
theorem dX9_leg_4 : decode cX9_leg 4 = .ok (.ifCond .eq 15, 3) := by decide +kernel
theorem dX9_leg_7 : decode cX9_leg 7 = .ok (.iload_n 2, 1) := by decide +kernel
theorem dX9_leg_8 : decode cX9_leg 8 = .ok (.i2l, 1) := by decide +kernel
theorem dX9_leg_9 : decode cX9_leg 9 = .ok (.lconst 0, 1) := by decide +kernel
theorem dX9_leg_10 : decode cX9_leg 10 = .ok (.ldc2_w 150, 3) := by decide +kernel
theorem dX9_leg_13 : decode cX9_leg 13 = .ok (.invokestatic 33, 3) := by decide +kernel
theorem dX9_leg_16 : decode cX9_leg 16 = .ok (.ifCond .ne 6, 3) := by decide +kernel
theorem dX9_leg_19 : decode cX9_leg 19 = .ok (.ldc 112, 2) := by decide +kernel
theorem dX9_leg_21 : decode cX9_leg 21 = .ok (.ireturn, 1) := by decide +kernel
theorem dX9_leg_22 : decode cX9_leg 22 = .ok (.iload_n 1, 1) := by decide +kernel
theorem dX9_leg_23 : decode cX9_leg 23 = .ok (.invokestatic 56, 3) := by decide +kernel
theorem dX9_leg_26 : decode cX9_leg 26 = .ok (.istore_n 3, 1) := by decide +kernel
theorem dX9_leg_27 : decode cX9_leg 27 = .ok (.iload_n 2, 1) := by decide +kernel
theorem dX9_leg_28 : decode cX9_leg 28 = .ok (.tableswitch 90 0 4 #[36, 36, 45, 51, 81], 36) := by decide +kernel
theorem dX9_leg_64 : decode cX9_leg 64 = .ok (.aload_n 0, 1) := by decide +kernel
theorem dX9_leg_65 : decode cX9_leg 65 = .ok (.getfield 7, 3) := by decide +kernel
theorem dX9_leg_68 : decode cX9_leg 68 = .ok (.iload_n 3, 1) := by decide +kernel
theorem dX9_leg_69 : decode cX9_leg 69 = .ok (.iload_n 2, 1) := by decide +kernel
theorem dX9_leg_70 : decode cX9_leg 70 = .ok (.iadd, 1) := by decide +kernel
theorem dX9_leg_71 : decode cX9_leg 71 = .ok (.iaload, 1) := by decide +kernel
theorem dX9_leg_72 : decode cX9_leg 72 = .ok (.ireturn, 1) := by decide +kernel
theorem dX9_leg_73 : decode cX9_leg 73 = .ok (.aload_n 0, 1) := by decide +kernel
theorem dX9_leg_74 : decode cX9_leg 74 = .ok (.iload_n 1, 1) := by decide +kernel
theorem dX9_leg_75 : decode cX9_leg 75 = .ok (.invokevirtual 74, 3) := by decide +kernel
theorem dX9_leg_78 : decode cX9_leg 78 = .ok (.ireturn, 1) := by decide +kernel
theorem dX9_leg_79 : decode cX9_leg 79 = .ok (.aload_n 0, 1) := by decide +kernel
theorem dX9_leg_80 : decode cX9_leg 80 = .ok (.getfield 7, 3) := by decide +kernel
theorem dX9_leg_83 : decode cX9_leg 83 = .ok (.iload_n 3, 1) := by decide +kernel
theorem dX9_leg_84 : decode cX9_leg 84 = .ok (.iconst 2, 1) := by decide +kernel
theorem dX9_leg_85 : decode cX9_leg 85 = .ok (.iadd, 1) := by decide +kernel
theorem dX9_leg_86 : decode cX9_leg 86 = .ok (.iaload, 1) := by decide +kernel
theorem dX9_leg_87 : decode cX9_leg 87 = .ok (.iconst (-1), 1) := by decide +kernel
theorem dX9_leg_88 : decode cX9_leg 88 = .ok (.if_icmp .ne 12, 3) := by decide +kernel
theorem dX9_leg_91 : decode cX9_leg 91 = .ok (.aload_n 0, 1) := by decide +kernel
theorem dX9_leg_92 : decode cX9_leg 92 = .ok (.getfield 7, 3) := by decide +kernel
theorem dX9_leg_95 : decode cX9_leg 95 = .ok (.iconst 0, 1) := by decide +kernel
theorem dX9_leg_96 : decode cX9_leg 96 = .ok (.iaload, 1) := by decide +kernel
theorem dX9_leg_97 : decode cX9_leg 97 = .ok (.goto 11, 3) := by decide +kernel
theorem dX9_leg_100 : decode cX9_leg 100 = .ok (.aload_n 0, 1) := by decide +kernel
theorem dX9_leg_101 : decode cX9_leg 101 = .ok (.getfield 7, 3) := by decide +kernel
theorem dX9_leg_104 : decode cX9_leg 104 = .ok (.iload_n 3, 1) := by decide +kernel
theorem dX9_leg_105 : decode cX9_leg 105 = .ok (.iconst 2, 1) := by decide +kernel
theorem dX9_leg_106 : decode cX9_leg 106 = .ok (.iadd, 1) := by decide +kernel
theorem dX9_leg_107 : decode cX9_leg 107 = .ok (.iaload, 1) := by decide +kernel
theorem dX9_leg_108 : decode cX9_leg 108 = .ok (.ireturn, 1) := by decide +kernel
theorem dX9_leg_109 : decode cX9_leg 109 = .ok (.aload_n 0, 1) := by decide +kernel
theorem dX9_leg_110 : decode cX9_leg 110 = .ok (.getfield 7, 3) := by decide +kernel
theorem dX9_leg_113 : decode cX9_leg 113 = .ok (.iload_n 3, 1) := by decide +kernel
theorem dX9_leg_114 : decode cX9_leg 114 = .ok (.iconst 3, 1) := by decide +kernel
theorem dX9_leg_115 : decode cX9_leg 115 = .ok (.iadd, 1) := by decide +kernel
theorem dX9_leg_116 : decode cX9_leg 116 = .ok (.iaload, 1) := by decide +kernel
theorem dX9_leg_117 : decode cX9_leg 117 = .ok (.ireturn, 1) := by decide +kernel
theorem dX9_leg_118 : decode cX9_leg 118 = .ok (.aload_n 0, 1) := by decide +kernel
theorem dX9_leg_119 : decode cX9_leg 119 = .ok (.getfield 7, 3) := by decide +kernel
theorem dX9_leg_122 : decode cX9_leg 122 = .ok (.iload_n 3, 1) := by decide +kernel
theorem dX9_leg_123 : decode cX9_leg 123 = .ok (.iconst 4, 1) := by decide +kernel
theorem dX9_leg_124 : decode cX9_leg 124 = .ok (.iadd, 1) := by decide +kernel
theorem dX9_leg_125 : decode cX9_leg 125 = .ok (.iload_n 2, 1) := by decide +kernel
theorem dX9_leg_126 : decode cX9_leg 126 = .ok (.iadd, 1) := by decide +kernel
theorem dX9_leg_127 : decode cX9_leg 127 = .ok (.iconst 5, 1) := by decide +kernel
theorem dX9_leg_128 : decode cX9_leg 128 = .ok (.isub, 1) := by decide +kernel
theorem dX9_leg_129 : decode cX9_leg 129 = .ok (.iaload, 1) := by decide +kernel
theorem dX9_leg_130 : decode cX9_leg 130 = .ok (.ireturn, 1) := by decide +kernel
set_option maxRecDepth 20000 in
theorem ggX9_load_X9_isLoad : GoodIn wsX9_load wsX9_isLoad := goodIn_r _ [8, 9, 10, 7, 11] (by decide +kernel) (by decide +kernel)
set_option maxRecDepth 20000 in
theorem gX9_load_X9_isLoad : GoodIn wsX9_load (va_wsS RX9 118 yX9_isLoad wsX9_isLoad) := goodIn_app (goodIn_of _ (by decide +kernel)) ggX9_load_X9_isLoad
set_option maxRecDepth 20000 in
theorem ggX9_load_X9_in : GoodIn wsX9_load wsX9_in := goodIn_r _ [11] (by decide +kernel) (by decide +kernel)
set_option maxRecDepth 20000 in
theorem gX9_load_X9_in : GoodIn wsX9_load (va_wsS RX9 33 yX9_in wsX9_in) := goodIn_app (goodIn_of _ (by decide +kernel)) ggX9_load_X9_in
set_option maxRecDepth 20000 in
theorem ggX9_load_X9_loadAt : GoodIn wsX9_load wsX9_loadAt := goodIn_r _ [14] (by decide +kernel) (by decide +kernel)
set_option maxRecDepth 20000 in
theorem gX9_load_X9_loadAt : GoodIn wsX9_load (va_wsS RX9 45 yX9_loadAt wsX9_loadAt) := goodIn_app (goodIn_of _ (by decide +kernel)) ggX9_load_X9_loadAt
set_option maxRecDepth 20000 in
theorem ggX9_load_X9_latched : GoodIn wsX9_load wsX9_latched := goodIn_r _ [18, 19, 20, 21, 7, 22, 3, 12, 13, 14, 23, 24, 25, 26, 27, 28, 29, 30, 31, 32, 33, 34, 35] (by decide +kernel) (by decide +kernel)
set_option maxRecDepth 20000 in
theorem gX9_load_X9_latched : GoodIn wsX9_load (wsV RX9 53 RX9 yX9_latched wsX9_latched) := goodIn_app (goodIn_of _ (by decide +kernel)) ggX9_load_X9_latched
theorem dX9_load_0 : decode cX9_load 0 = .ok (.iload_n 1, 1) := by decide +kernel
theorem dX9_load_1 : decode cX9_load 1 = .ok (.invokestatic 118, 3) := by decide +kernel
theorem dX9_load_4 : decode cX9_load 4 = .ok (.ifCond .eq 15, 3) := by decide +kernel
theorem dX9_load_7 : decode cX9_load 7 = .ok (.iload_n 2, 1) := by decide +kernel
theorem dX9_load_8 : decode cX9_load 8 = .ok (.i2l, 1) := by decide +kernel
theorem dX9_load_9 : decode cX9_load 9 = .ok (.lconst 0, 1) := by decide +kernel
theorem dX9_load_10 : decode cX9_load 10 = .ok (.ldc2_w 152, 3) := by decide +kernel
theorem dX9_load_13 : decode cX9_load 13 = .ok (.invokestatic 33, 3) := by decide +kernel
theorem dX9_load_16 : decode cX9_load 16 = .ok (.ifCond .ne 6, 3) := by decide +kernel
theorem dX9_load_19 : decode cX9_load 19 = .ok (.ldc 112, 2) := by decide +kernel
theorem dX9_load_21 : decode cX9_load 21 = .ok (.ireturn, 1) := by decide +kernel
theorem dX9_load_22 : decode cX9_load 22 = .ok (.aload_n 0, 1) := by decide +kernel
theorem dX9_load_23 : decode cX9_load 23 = .ok (.getfield 7, 3) := by decide +kernel
theorem dX9_load_26 : decode cX9_load 26 = .ok (.iload_n 1, 1) := by decide +kernel
theorem dX9_load_27 : decode cX9_load 27 = .ok (.invokestatic 45, 3) := by decide +kernel
theorem dX9_load_30 : decode cX9_load 30 = .ok (.iload_n 2, 1) := by decide +kernel
theorem dX9_load_31 : decode cX9_load 31 = .ok (.bipush 11, 2) := by decide +kernel
theorem dX9_load_33 : decode cX9_load 33 = .ok (.if_icmp .ne 8, 3) := by decide +kernel
theorem dX9_load_36 : decode cX9_load 36 = .ok (.bipush 10, 2) := by decide +kernel
theorem dX9_load_38 : decode cX9_load 38 = .ok (.goto 4, 3) := by decide +kernel
theorem dX9_load_41 : decode cX9_load 41 = .ok (.iload_n 2, 1) := by decide +kernel
theorem dX9_load_42 : decode cX9_load 42 = .ok (.iadd, 1) := by decide +kernel
theorem dX9_load_43 : decode cX9_load 43 = .ok (.iaload, 1) := by decide +kernel
theorem dX9_load_44 : decode cX9_load 44 = .ok (.istore_n 3, 1) := by decide +kernel
theorem dX9_load_45 : decode cX9_load 45 = .ok (.iload_n 2, 1) := by decide +kernel
theorem dX9_load_46 : decode cX9_load 46 = .ok (.bipush 9, 2) := by decide +kernel
theorem dX9_load_48 : decode cX9_load 48 = .ok (.if_icmp .ne 14, 3) := by decide +kernel
theorem dX9_load_51 : decode cX9_load 51 = .ok (.iload_n 3, 1) := by decide +kernel
theorem dX9_load_52 : decode cX9_load 52 = .ok (.bipush 9, 2) := by decide +kernel
theorem dX9_load_54 : decode cX9_load 54 = .ok (.if_icmp .ne 8, 3) := by decide +kernel
theorem dX9_load_57 : decode cX9_load 57 = .ok (.ldc 154, 2) := by decide +kernel
theorem dX9_load_59 : decode cX9_load 59 = .ok (.goto 18, 3) := by decide +kernel
theorem dX9_load_62 : decode cX9_load 62 = .ok (.iload_n 2, 1) := by decide +kernel
theorem dX9_load_63 : decode cX9_load 63 = .ok (.bipush 10, 2) := by decide +kernel
theorem dX9_load_65 : decode cX9_load 65 = .ok (.if_icmp .ne 11, 3) := by decide +kernel
theorem dX9_load_68 : decode cX9_load 68 = .ok (.aload_n 0, 1) := by decide +kernel
theorem dX9_load_69 : decode cX9_load 69 = .ok (.iload_n 1, 1) := by decide +kernel
theorem dX9_load_70 : decode cX9_load 70 = .ok (.invokevirtual 53, 3) := by decide +kernel
theorem dX9_load_73 : decode cX9_load 73 = .ok (.goto 4, 3) := by decide +kernel
theorem dX9_load_76 : decode cX9_load 76 = .ok (.iload_n 3, 1) := by decide +kernel
theorem dX9_load_77 : decode cX9_load 77 = .ok (.ireturn, 1) := by decide +kernel
set_option maxRecDepth 20000 in
theorem ggX9_fault_X9_isLoad : GoodIn wsX9_fault wsX9_isLoad := goodIn_r _ [9, 10, 11, 8, 12] (by decide +kernel) (by decide +kernel)
set_option maxRecDepth 20000 in
theorem gX9_fault_X9_isLoad : GoodIn wsX9_fault (va_wsS RX9 118 yX9_isLoad wsX9_isLoad) := goodIn_app (goodIn_of _ (by decide +kernel)) ggX9_fault_X9_isLoad
set_option maxRecDepth 20000 in
theorem ggX9_fault_X9_in : GoodIn wsX9_fault wsX9_in := goodIn_r _ [12] (by decide +kernel) (by decide +kernel)
set_option maxRecDepth 20000 in
theorem gX9_fault_X9_in : GoodIn wsX9_fault (va_wsS RX9 33 yX9_in wsX9_in) := goodIn_app (goodIn_of _ (by decide +kernel)) ggX9_fault_X9_in
set_option maxRecDepth 20000 in
theorem ggX9_fault_X9_canClear : GoodIn wsX9_fault wsX9_canClear := goodIn_r _ [16, 5, 17, 18, 19, 8, 20, 21, 22, 23, 24, 25, 26, 27, 28, 29, 30, 31, 32, 33, 34, 35, 36, 37, 38, 39, 40, 41, 42, 43, 44] (by decide +kernel) (by decide +kernel)
set_option maxRecDepth 20000 in
theorem gX9_fault_X9_canClear : GoodIn wsX9_fault (wsV RX9 137 RX9 yX9_canClear wsX9_canClear) := goodIn_app (goodIn_of _ (by decide +kernel)) ggX9_fault_X9_canClear
set_option maxRecDepth 20000 in
theorem ggX9_fault_X9_isLatched : GoodIn wsX9_fault wsX9_isLatched := goodIn_r _ [20, 5, 21, 22, 8, 23, 32, 33, 34, 35, 36, 37, 38, 39, 40, 41, 42, 43, 44] (by decide +kernel) (by decide +kernel)
set_option maxRecDepth 20000 in
theorem gX9_fault_X9_isLatched : GoodIn wsX9_fault (wsV RX9 49 RX9 yX9_isLatched wsX9_isLatched) := goodIn_app (goodIn_of _ (by decide +kernel)) ggX9_fault_X9_isLatched
set_option maxRecDepth 20000 in
theorem ggX9_fault_X9_placeOf : GoodIn wsX9_fault wsX9_placeOf := goodIn_r _ [27, 5, 17, 18, 19, 8, 20, 21, 22, 23, 32, 33, 34, 35, 36, 37, 38, 39, 40, 41, 42, 43, 44] (by decide +kernel) (by decide +kernel)
set_option maxRecDepth 20000 in
theorem gX9_fault_X9_placeOf : GoodIn wsX9_fault (wsV RX9 134 RX9 yX9_placeOf wsX9_placeOf) := goodIn_app (goodIn_of _ (by decide +kernel)) ggX9_fault_X9_placeOf
set_option maxRecDepth 20000 in
theorem ggX9_fault_X9_loadAt : GoodIn wsX9_fault wsX9_loadAt := goodIn_r _ [23] (by decide +kernel) (by decide +kernel)
set_option maxRecDepth 20000 in
theorem gX9_fault_X9_loadAt : GoodIn wsX9_fault (va_wsS RX9 45 yX9_loadAt wsX9_loadAt) := goodIn_app (goodIn_of _ (by decide +kernel)) ggX9_fault_X9_loadAt
theorem dX9_fault_0 : decode cX9_fault 0 = .ok (.iload_n 1, 1) := by decide +kernel
theorem dX9_fault_1 : decode cX9_fault 1 = .ok (.invokestatic 118, 3) := by decide +kernel
theorem dX9_fault_4 : decode cX9_fault 4 = .ok (.ifCond .eq 27, 3) := by decide +kernel
theorem dX9_fault_7 : decode cX9_fault 7 = .ok (.iload_n 2, 1) := by decide +kernel
theorem dX9_fault_8 : decode cX9_fault 8 = .ok (.i2l, 1) := by decide +kernel
theorem dX9_fault_9 : decode cX9_fault 9 = .ok (.lconst 0, 1) := by decide +kernel
theorem dX9_fault_10 : decode cX9_fault 10 = .ok (.ldc2_w 103, 3) := by decide +kernel
theorem dX9_fault_13 : decode cX9_fault 13 = .ok (.invokestatic 33, 3) := by decide +kernel
theorem dX9_fault_16 : decode cX9_fault 16 = .ok (.ifCond .eq 15, 3) := by decide +kernel
theorem dX9_fault_19 : decode cX9_fault 19 = .ok (.iload_n 3, 1) := by decide +kernel
theorem dX9_fault_20 : decode cX9_fault 20 = .ok (.i2l, 1) := by decide +kernel
theorem dX9_fault_21 : decode cX9_fault 21 = .ok (.lconst 0, 1) := by decide +kernel
theorem dX9_fault_22 : decode cX9_fault 22 = .ok (.ldc2_w 155, 3) := by decide +kernel
theorem dX9_fault_25 : decode cX9_fault 25 = .ok (.invokestatic 33, 3) := by decide +kernel
theorem dX9_fault_28 : decode cX9_fault 28 = .ok (.ifCond .ne 6, 3) := by decide +kernel
theorem dX9_fault_31 : decode cX9_fault 31 = .ok (.ldc 112, 2) := by decide +kernel
theorem dX9_fault_33 : decode cX9_fault 33 = .ok (.ireturn, 1) := by decide +kernel
theorem dX9_fault_34 : decode cX9_fault 34 = .ok (.iload_n 3, 1) := by decide +kernel
theorem dX9_fault_35 : decode cX9_fault 35 = .ok (.iconst 4, 1) := by decide +kernel
theorem dX9_fault_36 : decode cX9_fault 36 = .ok (.if_icmp .ne 18, 3) := by decide +kernel
theorem dX9_fault_39 : decode cX9_fault 39 = .ok (.aload_n 0, 1) := by decide +kernel
theorem dX9_fault_40 : decode cX9_fault 40 = .ok (.iload_n 1, 1) := by decide +kernel
theorem dX9_fault_41 : decode cX9_fault 41 = .ok (.iload_n 2, 1) := by decide +kernel
theorem dX9_fault_42 : decode cX9_fault 42 = .ok (.invokevirtual 137, 3) := by decide +kernel
theorem dX9_fault_45 : decode cX9_fault 45 = .ok (.ifCond .eq 7, 3) := by decide +kernel
theorem dX9_fault_48 : decode cX9_fault 48 = .ok (.iconst 1, 1) := by decide +kernel
theorem dX9_fault_49 : decode cX9_fault 49 = .ok (.goto 4, 3) := by decide +kernel
theorem dX9_fault_52 : decode cX9_fault 52 = .ok (.iconst 0, 1) := by decide +kernel
theorem dX9_fault_53 : decode cX9_fault 53 = .ok (.ireturn, 1) := by decide +kernel
theorem dX9_fault_54 : decode cX9_fault 54 = .ok (.aload_n 0, 1) := by decide +kernel
theorem dX9_fault_55 : decode cX9_fault 55 = .ok (.iload_n 1, 1) := by decide +kernel
theorem dX9_fault_56 : decode cX9_fault 56 = .ok (.iload_n 2, 1) := by decide +kernel
theorem dX9_fault_57 : decode cX9_fault 57 = .ok (.invokevirtual 49, 3) := by decide +kernel
theorem dX9_fault_60 : decode cX9_fault 60 = .ok (.ifCond .ne 14, 3) := by decide +kernel
theorem dX9_fault_63 : decode cX9_fault 63 = .ok (.iload_n 3, 1) := by decide +kernel
theorem dX9_fault_64 : decode cX9_fault 64 = .ok (.ifCond .ne 7, 3) := by decide +kernel
theorem dX9_fault_67 : decode cX9_fault 67 = .ok (.iconst 0, 1) := by decide +kernel
theorem dX9_fault_68 : decode cX9_fault 68 = .ok (.goto 5, 3) := by decide +kernel
theorem dX9_fault_71 : decode cX9_fault 71 = .ok (.ldc 154, 2) := by decide +kernel
theorem dX9_fault_73 : decode cX9_fault 73 = .ok (.ireturn, 1) := by decide +kernel
theorem dX9_fault_74 : decode cX9_fault 74 = .ok (.iload_n 3, 1) := by decide +kernel
theorem dX9_fault_75 : decode cX9_fault 75 = .ok (.ifCond .ne 7, 3) := by decide +kernel
theorem dX9_fault_78 : decode cX9_fault 78 = .ok (.iconst 1, 1) := by decide +kernel
theorem dX9_fault_79 : decode cX9_fault 79 = .ok (.goto 37, 3) := by decide +kernel
theorem dX9_fault_82 : decode cX9_fault 82 = .ok (.iload_n 3, 1) := by decide +kernel
theorem dX9_fault_83 : decode cX9_fault 83 = .ok (.iconst 3, 1) := by decide +kernel
theorem dX9_fault_84 : decode cX9_fault 84 = .ok (.if_icmp .ne 12, 3) := by decide +kernel
theorem dX9_fault_87 : decode cX9_fault 87 = .ok (.aload_n 0, 1) := by decide +kernel
theorem dX9_fault_88 : decode cX9_fault 88 = .ok (.iload_n 1, 1) := by decide +kernel
theorem dX9_fault_89 : decode cX9_fault 89 = .ok (.iload_n 2, 1) := by decide +kernel
theorem dX9_fault_90 : decode cX9_fault 90 = .ok (.invokevirtual 134, 3) := by decide +kernel
theorem dX9_fault_93 : decode cX9_fault 93 = .ok (.goto 23, 3) := by decide +kernel
theorem dX9_fault_96 : decode cX9_fault 96 = .ok (.aload_n 0, 1) := by decide +kernel
theorem dX9_fault_97 : decode cX9_fault 97 = .ok (.getfield 7, 3) := by decide +kernel
theorem dX9_fault_100 : decode cX9_fault 100 = .ok (.iload_n 1, 1) := by decide +kernel
theorem dX9_fault_101 : decode cX9_fault 101 = .ok (.invokestatic 45, 3) := by decide +kernel
theorem dX9_fault_104 : decode cX9_fault 104 = .ok (.bipush 12, 2) := by decide +kernel
theorem dX9_fault_106 : decode cX9_fault 106 = .ok (.iadd, 1) := by decide +kernel
theorem dX9_fault_107 : decode cX9_fault 107 = .ok (.iconst 3, 1) := by decide +kernel
theorem dX9_fault_108 : decode cX9_fault 108 = .ok (.iload_n 2, 1) := by decide +kernel
theorem dX9_fault_109 : decode cX9_fault 109 = .ok (.imul, 1) := by decide +kernel
theorem dX9_fault_110 : decode cX9_fault 110 = .ok (.iadd, 1) := by decide +kernel
theorem dX9_fault_111 : decode cX9_fault 111 = .ok (.iload_n 3, 1) := by decide +kernel
theorem dX9_fault_112 : decode cX9_fault 112 = .ok (.iadd, 1) := by decide +kernel
theorem dX9_fault_113 : decode cX9_fault 113 = .ok (.iconst 1, 1) := by decide +kernel
theorem dX9_fault_114 : decode cX9_fault 114 = .ok (.isub, 1) := by decide +kernel
theorem dX9_fault_115 : decode cX9_fault 115 = .ok (.iaload, 1) := by decide +kernel
theorem dX9_fault_116 : decode cX9_fault 116 = .ok (.ireturn, 1) := by decide +kernel
set_option maxRecDepth 20000 in
theorem ggX9_scope_X9_in : GoodIn wsX9_scope wsX9_in := goodIn_r _ [8] (by decide +kernel) (by decide +kernel)
set_option maxRecDepth 20000 in
theorem gX9_scope_X9_in : GoodIn wsX9_scope (va_wsS RX9 33 yX9_in wsX9_in) := goodIn_app (goodIn_of _ (by decide +kernel)) ggX9_scope_X9_in
theorem dX9_scope_0 : decode cX9_scope 0 = .ok (.iload_n 1, 1) := by decide +kernel
theorem dX9_scope_1 : decode cX9_scope 1 = .ok (.ifCond .lt 15, 3) := by decide +kernel
theorem dX9_scope_4 : decode cX9_scope 4 = .ok (.iload_n 2, 1) := by decide +kernel
theorem dX9_scope_5 : decode cX9_scope 5 = .ok (.i2l, 1) := by decide +kernel
theorem dX9_scope_6 : decode cX9_scope 6 = .ok (.lconst 0, 1) := by decide +kernel
theorem dX9_scope_7 : decode cX9_scope 7 = .ok (.ldc2_w 155, 3) := by decide +kernel
theorem dX9_scope_10 : decode cX9_scope 10 = .ok (.invokestatic 33, 3) := by decide +kernel
theorem dX9_scope_13 : decode cX9_scope 13 = .ok (.ifCond .ne 6, 3) := by decide +kernel
theorem dX9_scope_16 : decode cX9_scope 16 = .ok (.ldc 112, 2) := by decide +kernel
theorem dX9_scope_18 : decode cX9_scope 18 = .ok (.ireturn, 1) := by decide +kernel
theorem dX9_scope_19 : decode cX9_scope 19 = .ok (.iload_n 1, 1) := by decide +kernel
theorem dX9_scope_20 : decode cX9_scope 20 = .ok (.aload_n 0, 1) := by decide +kernel
theorem dX9_scope_21 : decode cX9_scope 21 = .ok (.getfield 7, 3) := by decide +kernel
theorem dX9_scope_24 : decode cX9_scope 24 = .ok (.bipush 102, 2) := by decide +kernel
theorem dX9_scope_26 : decode cX9_scope 26 = .ok (.iaload, 1) := by decide +kernel
theorem dX9_scope_27 : decode cX9_scope 27 = .ok (.if_icmp .ge 19, 3) := by decide +kernel
theorem dX9_scope_30 : decode cX9_scope 30 = .ok (.aload_n 0, 1) := by decide +kernel
theorem dX9_scope_31 : decode cX9_scope 31 = .ok (.getfield 7, 3) := by decide +kernel
theorem dX9_scope_34 : decode cX9_scope 34 = .ok (.bipush 110, 2) := by decide +kernel
theorem dX9_scope_36 : decode cX9_scope 36 = .ok (.iconst 5, 1) := by decide +kernel
theorem dX9_scope_37 : decode cX9_scope 37 = .ok (.iload_n 1, 1) := by decide +kernel
theorem dX9_scope_38 : decode cX9_scope 38 = .ok (.imul, 1) := by decide +kernel
theorem dX9_scope_39 : decode cX9_scope 39 = .ok (.iadd, 1) := by decide +kernel
theorem dX9_scope_40 : decode cX9_scope 40 = .ok (.iload_n 2, 1) := by decide +kernel
theorem dX9_scope_41 : decode cX9_scope 41 = .ok (.iadd, 1) := by decide +kernel
theorem dX9_scope_42 : decode cX9_scope 42 = .ok (.iaload, 1) := by decide +kernel
theorem dX9_scope_43 : decode cX9_scope 43 = .ok (.goto 5, 3) := by decide +kernel
theorem dX9_scope_46 : decode cX9_scope 46 = .ok (.ldc 154, 2) := by decide +kernel
theorem dX9_scope_48 : decode cX9_scope 48 = .ok (.ireturn, 1) := by decide +kernel
theorem dX9_keeps_0 : decode cX9_keeps 0 = .ok (.iconst 0, 1) := by decide +kernel
theorem dX9_keeps_1 : decode cX9_keeps 1 = .ok (.istore_n 1, 1) := by decide +kernel
theorem dX9_keeps_2 : decode cX9_keeps 2 = .ok (.iload_n 1, 1) := by decide +kernel
theorem dX9_keeps_3 : decode cX9_keeps 3 = .ok (.sipush 270, 3) := by decide +kernel
theorem dX9_keeps_6 : decode cX9_keeps 6 = .ok (.if_icmp .ge 21, 3) := by decide +kernel
theorem dX9_keeps_9 : decode cX9_keeps 9 = .ok (.aload_n 0, 1) := by decide +kernel
theorem dX9_keeps_10 : decode cX9_keeps 10 = .ok (.getfield 20, 3) := by decide +kernel
theorem dX9_keeps_13 : decode cX9_keeps 13 = .ok (.iload_n 1, 1) := by decide +kernel
theorem dX9_keeps_14 : decode cX9_keeps 14 = .ok (.aload_n 0, 1) := by decide +kernel
theorem dX9_keeps_15 : decode cX9_keeps 15 = .ok (.getfield 7, 3) := by decide +kernel
theorem dX9_keeps_18 : decode cX9_keeps 18 = .ok (.iload_n 1, 1) := by decide +kernel
theorem dX9_keeps_19 : decode cX9_keeps 19 = .ok (.iaload, 1) := by decide +kernel
theorem dX9_keeps_20 : decode cX9_keeps 20 = .ok (.iastore, 1) := by decide +kernel
theorem dX9_keeps_21 : decode cX9_keeps 21 = .ok (.iinc 1 1, 3) := by decide +kernel
theorem dX9_keeps_24 : decode cX9_keeps 24 = .ok (.goto (-22), 3) := by decide +kernel
theorem dX9_keeps_27 : decode cX9_keeps 27 = .ok (.aload_n 0, 1) := by decide +kernel
theorem dX9_keeps_28 : decode cX9_keeps 28 = .ok (.aload_n 0, 1) := by decide +kernel
theorem dX9_keeps_29 : decode cX9_keeps 29 = .ok (.getfield 41, 3) := by decide +kernel
theorem dX9_keeps_32 : decode cX9_keeps 32 = .ok (.putfield 157, 3) := by decide +kernel
theorem dX9_keeps_35 : decode cX9_keeps 35 = .ok (.return_, 1) := by decide +kernel
theorem dX9_restores_0 : decode cX9_restores 0 = .ok (.iconst 0, 1) := by decide +kernel
theorem dX9_restores_1 : decode cX9_restores 1 = .ok (.istore_n 1, 1) := by decide +kernel
theorem dX9_restores_2 : decode cX9_restores 2 = .ok (.iload_n 1, 1) := by decide +kernel
theorem dX9_restores_3 : decode cX9_restores 3 = .ok (.sipush 270, 3) := by decide +kernel
theorem dX9_restores_6 : decode cX9_restores 6 = .ok (.if_icmp .ge 21, 3) := by decide +kernel
theorem dX9_restores_9 : decode cX9_restores 9 = .ok (.aload_n 0, 1) := by decide +kernel
theorem dX9_restores_10 : decode cX9_restores 10 = .ok (.getfield 7, 3) := by decide +kernel
theorem dX9_restores_13 : decode cX9_restores 13 = .ok (.iload_n 1, 1) := by decide +kernel
theorem dX9_restores_14 : decode cX9_restores 14 = .ok (.aload_n 0, 1) := by decide +kernel
theorem dX9_restores_15 : decode cX9_restores 15 = .ok (.getfield 20, 3) := by decide +kernel
theorem dX9_restores_18 : decode cX9_restores 18 = .ok (.iload_n 1, 1) := by decide +kernel
theorem dX9_restores_19 : decode cX9_restores 19 = .ok (.iaload, 1) := by decide +kernel
theorem dX9_restores_20 : decode cX9_restores 20 = .ok (.iastore, 1) := by decide +kernel
theorem dX9_restores_21 : decode cX9_restores 21 = .ok (.iinc 1 1, 3) := by decide +kernel
theorem dX9_restores_24 : decode cX9_restores 24 = .ok (.goto (-22), 3) := by decide +kernel
theorem dX9_restores_27 : decode cX9_restores 27 = .ok (.aload_n 0, 1) := by decide +kernel
theorem dX9_restores_28 : decode cX9_restores 28 = .ok (.aload_n 0, 1) := by decide +kernel
theorem dX9_restores_29 : decode cX9_restores 29 = .ok (.getfield 157, 3) := by decide +kernel
theorem dX9_restores_32 : decode cX9_restores 32 = .ok (.putfield 41, 3) := by decide +kernel
theorem dX9_restores_35 : decode cX9_restores 35 = .ok (.return_, 1) := by decide +kernel
set_option maxRecDepth 20000 in
theorem ggX9_until_X9_isLoad : GoodIn wsX9_until wsX9_isLoad := goodIn_r _ [7, 8, 9, 6, 10] (by decide +kernel) (by decide +kernel)
set_option maxRecDepth 20000 in
theorem gX9_until_X9_isLoad : GoodIn wsX9_until (va_wsS RX9 118 yX9_isLoad wsX9_isLoad) := goodIn_app (goodIn_of _ (by decide +kernel)) ggX9_until_X9_isLoad
set_option maxRecDepth 20000 in
theorem ggX9_until_X9_in : GoodIn wsX9_until wsX9_in := goodIn_r _ [10] (by decide +kernel) (by decide +kernel)
set_option maxRecDepth 20000 in
theorem gX9_until_X9_in : GoodIn wsX9_until (va_wsS RX9 33 yX9_in wsX9_in) := goodIn_app (goodIn_of _ (by decide +kernel)) ggX9_until_X9_in

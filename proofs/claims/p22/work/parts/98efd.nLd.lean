theorem dL_seen_73 : decode cL_seen 73 = .ok (.invokevirtual 30, 3) := by decide +kernel
theorem dL_seen_76 : decode cL_seen 76 = .ok (.iload 4, 2) := by decide +kernel
theorem dL_seen_78 : decode cL_seen 78 = .ok (.idiv, 1) := by decide +kernel
theorem dL_seen_79 : decode cL_seen 79 = .ok (.iconst 3, 1) := by decide +kernel
theorem dL_seen_80 : decode cL_seen 80 = .ok (.irem, 1) := by decide +kernel
theorem dL_seen_81 : decode cL_seen 81 = .ok (.istore 8, 2) := by decide +kernel
theorem dL_seen_83 : decode cL_seen 83 = .ok (.iload 8, 2) := by decide +kernel
theorem dL_seen_85 : decode cL_seen 85 = .ok (.ifCond .eq 26, 3) := by decide +kernel
theorem dL_seen_88 : decode cL_seen 88 = .ok (.iload 5, 2) := by decide +kernel
theorem dL_seen_90 : decode cL_seen 90 = .ok (.ifCond .eq 21, 3) := by decide +kernel
theorem dL_seen_93 : decode cL_seen 93 = .ok (.iload 8, 2) := by decide +kernel
theorem dL_seen_95 : decode cL_seen 95 = .ok (.iload 5, 2) := by decide +kernel
theorem dL_seen_97 : decode cL_seen 97 = .ok (.if_icmp .ne 8, 3) := by decide +kernel
theorem dL_seen_100 : decode cL_seen 100 = .ok (.iload 6, 2) := by decide +kernel
theorem dL_seen_102 : decode cL_seen 102 = .ok (.ifCond .eq 9, 3) := by decide +kernel
theorem dL_seen_105 : decode cL_seen 105 = .ok (.iload 6, 2) := by decide +kernel
theorem dL_seen_107 : decode cL_seen 107 = .ok (.iload_n 1, 1) := by decide +kernel
theorem dL_seen_108 : decode cL_seen 108 = .ok (.if_icmp .lt 7, 3) := by decide +kernel
theorem dL_seen_111 : decode cL_seen 111 = .ok (.iconst 1, 1) := by decide +kernel
theorem dL_seen_112 : decode cL_seen 112 = .ok (.goto 4, 3) := by decide +kernel
theorem dL_seen_115 : decode cL_seen 115 = .ok (.iconst 0, 1) := by decide +kernel
theorem dL_seen_116 : decode cL_seen 116 = .ok (.istore_n 2, 1) := by decide +kernel
theorem dL_seen_117 : decode cL_seen 117 = .ok (.iload 8, 2) := by decide +kernel
theorem dL_seen_119 : decode cL_seen 119 = .ok (.ifCond .ne 10, 3) := by decide +kernel
theorem dL_seen_122 : decode cL_seen 122 = .ok (.iload 6, 2) := by decide +kernel
theorem dL_seen_124 : decode cL_seen 124 = .ok (.iconst 1, 1) := by decide +kernel
theorem dL_seen_125 : decode cL_seen 125 = .ok (.iadd, 1) := by decide +kernel
theorem dL_seen_126 : decode cL_seen 126 = .ok (.goto 4, 3) := by decide +kernel
theorem dL_seen_129 : decode cL_seen 129 = .ok (.iconst 0, 1) := by decide +kernel
theorem dL_seen_130 : decode cL_seen 130 = .ok (.istore 6, 2) := by decide +kernel
theorem dL_seen_132 : decode cL_seen 132 = .ok (.iload 8, 2) := by decide +kernel
theorem dL_seen_134 : decode cL_seen 134 = .ok (.ifCond .ne 8, 3) := by decide +kernel
theorem dL_seen_137 : decode cL_seen 137 = .ok (.iload 5, 2) := by decide +kernel
theorem dL_seen_139 : decode cL_seen 139 = .ok (.goto 5, 3) := by decide +kernel
theorem dL_seen_142 : decode cL_seen 142 = .ok (.iload 8, 2) := by decide +kernel
theorem dL_seen_144 : decode cL_seen 144 = .ok (.istore 5, 2) := by decide +kernel
theorem dL_seen_146 : decode cL_seen 146 = .ok (.iinc 7 (-1), 3) := by decide +kernel
theorem dL_seen_149 : decode cL_seen 149 = .ok (.goto (-89), 3) := by decide +kernel
theorem dL_seen_152 : decode cL_seen 152 = .ok (.iinc 3 1, 3) := by decide +kernel
theorem dL_seen_155 : decode cL_seen 155 = .ok (.goto (-151), 3) := by decide +kernel
theorem dL_seen_158 : decode cL_seen 158 = .ok (.iconst 0, 1) := by decide +kernel
theorem dL_seen_159 : decode cL_seen 159 = .ok (.istore_n 3, 1) := by decide +kernel
theorem dL_seen_160 : decode cL_seen 160 = .ok (.iload_n 3, 1) := by decide +kernel
theorem dL_seen_161 : decode cL_seen 161 = .ok (.iconst 1, 1) := by decide +kernel
theorem dL_seen_162 : decode cL_seen 162 = .ok (.iadd, 1) := by decide +kernel
theorem dL_seen_163 : decode cL_seen 163 = .ok (.i2l, 1) := by decide +kernel
theorem dL_seen_164 : decode cL_seen 164 = .ok (.aload_n 0, 1) := by decide +kernel
theorem dL_seen_165 : decode cL_seen 165 = .ok (.iconst 2, 1) := by decide +kernel
theorem dL_seen_166 : decode cL_seen 166 = .ok (.invokevirtual 9, 3) := by decide +kernel
theorem dL_seen_169 : decode cL_seen 169 = .ok (.lcmp, 1) := by decide +kernel
theorem dL_seen_170 : decode cL_seen 170 = .ok (.ifCond .ge 93, 3) := by decide +kernel
theorem dL_seen_173 : decode cL_seen 173 = .ok (.iload_n 2, 1) := by decide +kernel
theorem dL_seen_174 : decode cL_seen 174 = .ok (.ifCond .eq 89, 3) := by decide +kernel
theorem dL_seen_177 : decode cL_seen 177 = .ok (.iconst 0, 1) := by decide +kernel
theorem dL_seen_178 : decode cL_seen 178 = .ok (.istore 4, 2) := by decide +kernel
theorem dL_seen_180 : decode cL_seen 180 = .ok (.iload 4, 2) := by decide +kernel
theorem dL_seen_182 : decode cL_seen 182 = .ok (.iconst 2, 1) := by decide +kernel
theorem dL_seen_183 : decode cL_seen 183 = .ok (.if_icmp .ge 74, 3) := by decide +kernel
theorem dL_seen_186 : decode cL_seen 186 = .ok (.aload_n 0, 1) := by decide +kernel
theorem dL_seen_187 : decode cL_seen 187 = .ok (.iload_n 3, 1) := by decide +kernel
theorem dL_seen_188 : decode cL_seen 188 = .ok (.iconst 1, 1) := by decide +kernel
theorem dL_seen_189 : decode cL_seen 189 = .ok (.iload 4, 2) := by decide +kernel
theorem dL_seen_191 : decode cL_seen 191 = .ok (.iadd, 1) := by decide +kernel
theorem dL_seen_192 : decode cL_seen 192 = .ok (.invokevirtual 30, 3) := by decide +kernel
theorem dL_seen_195 : decode cL_seen 195 = .ok (.aload_n 0, 1) := by decide +kernel
theorem dL_seen_196 : decode cL_seen 196 = .ok (.iload_n 3, 1) := by decide +kernel
theorem dL_seen_197 : decode cL_seen 197 = .ok (.iconst 1, 1) := by decide +kernel
theorem dL_seen_198 : decode cL_seen 198 = .ok (.iadd, 1) := by decide +kernel
theorem dL_seen_199 : decode cL_seen 199 = .ok (.iconst 1, 1) := by decide +kernel
theorem dL_seen_200 : decode cL_seen 200 = .ok (.iload 4, 2) := by decide +kernel
theorem dL_seen_202 : decode cL_seen 202 = .ok (.iadd, 1) := by decide +kernel
theorem dL_seen_203 : decode cL_seen 203 = .ok (.invokevirtual 30, 3) := by decide +kernel
theorem dL_seen_206 : decode cL_seen 206 = .ok (.isub, 1) := by decide +kernel
theorem dL_seen_207 : decode cL_seen 207 = .ok (.istore 5, 2) := by decide +kernel
theorem dL_seen_209 : decode cL_seen 209 = .ok (.aload_n 0, 1) := by decide +kernel
theorem dL_seen_210 : decode cL_seen 210 = .ok (.iload 4, 2) := by decide +kernel
theorem dL_seen_212 : decode cL_seen 212 = .ok (.iconst 0, 1) := by decide +kernel
theorem dL_seen_213 : decode cL_seen 213 = .ok (.invokevirtual 21, 3) := by decide +kernel
theorem dL_seen_216 : decode cL_seen 216 = .ok (.aload_n 0, 1) := by decide +kernel
theorem dL_seen_217 : decode cL_seen 217 = .ok (.iload 4, 2) := by decide +kernel
theorem dL_seen_219 : decode cL_seen 219 = .ok (.iconst 1, 1) := by decide +kernel
theorem dL_seen_220 : decode cL_seen 220 = .ok (.invokevirtual 21, 3) := by decide +kernel
theorem dL_seen_223 : decode cL_seen 223 = .ok (.iadd, 1) := by decide +kernel
theorem dL_seen_224 : decode cL_seen 224 = .ok (.istore 6, 2) := by decide +kernel
theorem dL_seen_226 : decode cL_seen 226 = .ok (.iload_n 2, 1) := by decide +kernel
theorem dL_seen_227 : decode cL_seen 227 = .ok (.ifCond .eq 22, 3) := by decide +kernel
theorem dL_seen_230 : decode cL_seen 230 = .ok (.iload 5, 2) := by decide +kernel
theorem dL_seen_232 : decode cL_seen 232 = .ok (.iload 6, 2) := by decide +kernel
theorem dL_seen_234 : decode cL_seen 234 = .ok (.if_icmp .gt 15, 3) := by decide +kernel
theorem dL_seen_237 : decode cL_seen 237 = .ok (.iload 5, 2) := by decide +kernel
theorem dL_seen_239 : decode cL_seen 239 = .ok (.iload 6, 2) := by decide +kernel
theorem dL_seen_241 : decode cL_seen 241 = .ok (.ineg, 1) := by decide +kernel
theorem dL_seen_242 : decode cL_seen 242 = .ok (.if_icmp .lt 7, 3) := by decide +kernel
theorem dL_seen_245 : decode cL_seen 245 = .ok (.iconst 1, 1) := by decide +kernel
theorem dL_seen_246 : decode cL_seen 246 = .ok (.goto 4, 3) := by decide +kernel
theorem dL_seen_249 : decode cL_seen 249 = .ok (.iconst 0, 1) := by decide +kernel
theorem dL_seen_250 : decode cL_seen 250 = .ok (.istore_n 2, 1) := by decide +kernel
theorem dL_seen_251 : decode cL_seen 251 = .ok (.iinc 4 1, 3) := by decide +kernel
theorem dL_seen_254 : decode cL_seen 254 = .ok (.goto (-74), 3) := by decide +kernel
theorem dL_seen_257 : decode cL_seen 257 = .ok (.iinc 3 1, 3) := by decide +kernel

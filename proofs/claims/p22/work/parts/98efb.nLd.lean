theorem dL_holds_149 : decode cL_holds 149 = .ok (.iconst 2, 1) := by decide +kernel
theorem dL_holds_150 : decode cL_holds 150 = .ok (.idiv, 1) := by decide +kernel
theorem dL_holds_151 : decode cL_holds 151 = .ok (.bipush 10, 2) := by decide +kernel
theorem dL_holds_153 : decode cL_holds 153 = .ok (.invokevirtual 21, 3) := by decide +kernel
theorem dL_holds_156 : decode cL_holds 156 = .ok (.ifCond .eq 13, 3) := by decide +kernel
theorem dL_holds_159 : decode cL_holds 159 = .ok (.aload_n 0, 1) := by decide +kernel
theorem dL_holds_160 : decode cL_holds 160 = .ok (.iload 6, 2) := by decide +kernel
theorem dL_holds_162 : decode cL_holds 162 = .ok (.iconst 2, 1) := by decide +kernel
theorem dL_holds_163 : decode cL_holds 163 = .ok (.invokevirtual 17, 3) := by decide +kernel
theorem dL_holds_166 : decode cL_holds 166 = .ok (.ifCond .ne 7, 3) := by decide +kernel
theorem dL_holds_169 : decode cL_holds 169 = .ok (.iconst 1, 1) := by decide +kernel
theorem dL_holds_170 : decode cL_holds 170 = .ok (.goto 4, 3) := by decide +kernel
theorem dL_holds_173 : decode cL_holds 173 = .ok (.iconst 0, 1) := by decide +kernel
theorem dL_holds_174 : decode cL_holds 174 = .ok (.istore 5, 2) := by decide +kernel
theorem dL_holds_176 : decode cL_holds 176 = .ok (.iinc 6 1, 3) := by decide +kernel
theorem dL_holds_179 : decode cL_holds 179 = .ok (.goto (-133), 3) := by decide +kernel
theorem dL_holds_182 : decode cL_holds 182 = .ok (.iconst 0, 1) := by decide +kernel
theorem dL_holds_183 : decode cL_holds 183 = .ok (.istore 6, 2) := by decide +kernel
theorem dL_holds_185 : decode cL_holds 185 = .ok (.iload 6, 2) := by decide +kernel
theorem dL_holds_187 : decode cL_holds 187 = .ok (.iconst 2, 1) := by decide +kernel
theorem dL_holds_188 : decode cL_holds 188 = .ok (.if_icmp .ge 229, 3) := by decide +kernel
theorem dL_holds_191 : decode cL_holds 191 = .ok (.iload 5, 2) := by decide +kernel
theorem dL_holds_193 : decode cL_holds 193 = .ok (.ifCond .eq 224, 3) := by decide +kernel
theorem dL_holds_196 : decode cL_holds 196 = .ok (.lload_n 3, 1) := by decide +kernel
theorem dL_holds_197 : decode cL_holds 197 = .ok (.aload_n 0, 1) := by decide +kernel
theorem dL_holds_198 : decode cL_holds 198 = .ok (.iload 6, 2) := by decide +kernel
theorem dL_holds_200 : decode cL_holds 200 = .ok (.bipush 10, 2) := by decide +kernel
theorem dL_holds_202 : decode cL_holds 202 = .ok (.invokevirtual 21, 3) := by decide +kernel
theorem dL_holds_205 : decode cL_holds 205 = .ok (.i2l, 1) := by decide +kernel
theorem dL_holds_206 : decode cL_holds 206 = .ok (.ladd, 1) := by decide +kernel
theorem dL_holds_207 : decode cL_holds 207 = .ok (.lstore_n 3, 1) := by decide +kernel
theorem dL_holds_208 : decode cL_holds 208 = .ok (.iconst 0, 1) := by decide +kernel
theorem dL_holds_209 : decode cL_holds 209 = .ok (.istore 7, 2) := by decide +kernel
theorem dL_holds_211 : decode cL_holds 211 = .ok (.iconst 0, 1) := by decide +kernel
theorem dL_holds_212 : decode cL_holds 212 = .ok (.istore 8, 2) := by decide +kernel
theorem dL_holds_214 : decode cL_holds 214 = .ok (.iload 8, 2) := by decide +kernel
theorem dL_holds_216 : decode cL_holds 216 = .ok (.iconst 3, 1) := by decide +kernel
theorem dL_holds_217 : decode cL_holds 217 = .ok (.if_icmp .ge 108, 3) := by decide +kernel
theorem dL_holds_220 : decode cL_holds 220 = .ok (.iload 7, 2) := by decide +kernel
theorem dL_holds_222 : decode cL_holds 222 = .ok (.aload_n 0, 1) := by decide +kernel
theorem dL_holds_223 : decode cL_holds 223 = .ok (.iload 6, 2) := by decide +kernel
theorem dL_holds_225 : decode cL_holds 225 = .ok (.iload 8, 2) := by decide +kernel
theorem dL_holds_227 : decode cL_holds 227 = .ok (.iconst 0, 1) := by decide +kernel
theorem dL_holds_228 : decode cL_holds 228 = .ok (.invokevirtual 24, 3) := by decide +kernel
theorem dL_holds_231 : decode cL_holds 231 = .ok (.ifCond .ne 7, 3) := by decide +kernel
theorem dL_holds_234 : decode cL_holds 234 = .ok (.iconst 0, 1) := by decide +kernel
theorem dL_holds_235 : decode cL_holds 235 = .ok (.goto 14, 3) := by decide +kernel
theorem dL_holds_238 : decode cL_holds 238 = .ok (.iconst 1, 1) := by decide +kernel
theorem dL_holds_239 : decode cL_holds 239 = .ok (.aload_n 0, 1) := by decide +kernel
theorem dL_holds_240 : decode cL_holds 240 = .ok (.iload 6, 2) := by decide +kernel
theorem dL_holds_242 : decode cL_holds 242 = .ok (.iload 8, 2) := by decide +kernel
theorem dL_holds_244 : decode cL_holds 244 = .ok (.iconst 3, 1) := by decide +kernel
theorem dL_holds_245 : decode cL_holds 245 = .ok (.invokevirtual 24, 3) := by decide +kernel
theorem dL_holds_248 : decode cL_holds 248 = .ok (.ishl, 1) := by decide +kernel
theorem dL_holds_249 : decode cL_holds 249 = .ok (.ior, 1) := by decide +kernel
theorem dL_holds_250 : decode cL_holds 250 = .ok (.istore 7, 2) := by decide +kernel
theorem dL_holds_252 : decode cL_holds 252 = .ok (.iload 5, 2) := by decide +kernel
theorem dL_holds_254 : decode cL_holds 254 = .ok (.ifCond .eq 62, 3) := by decide +kernel
theorem dL_holds_257 : decode cL_holds 257 = .ok (.aload_n 0, 1) := by decide +kernel
theorem dL_holds_258 : decode cL_holds 258 = .ok (.iload 6, 2) := by decide +kernel
theorem dL_holds_260 : decode cL_holds 260 = .ok (.iload 8, 2) := by decide +kernel
theorem dL_holds_262 : decode cL_holds 262 = .ok (.iconst 4, 1) := by decide +kernel
theorem dL_holds_263 : decode cL_holds 263 = .ok (.invokevirtual 24, 3) := by decide +kernel
theorem dL_holds_266 : decode cL_holds 266 = .ok (.ifCond .eq 15, 3) := by decide +kernel
theorem dL_holds_269 : decode cL_holds 269 = .ok (.aload_n 0, 1) := by decide +kernel
theorem dL_holds_270 : decode cL_holds 270 = .ok (.iload 6, 2) := by decide +kernel
theorem dL_holds_272 : decode cL_holds 272 = .ok (.iload 8, 2) := by decide +kernel
theorem dL_holds_274 : decode cL_holds 274 = .ok (.iconst 3, 1) := by decide +kernel
theorem dL_holds_275 : decode cL_holds 275 = .ok (.invokevirtual 24, 3) := by decide +kernel
theorem dL_holds_278 : decode cL_holds 278 = .ok (.ifCond .ne 38, 3) := by decide +kernel
theorem dL_holds_281 : decode cL_holds 281 = .ok (.aload_n 0, 1) := by decide +kernel
theorem dL_holds_282 : decode cL_holds 282 = .ok (.iload 6, 2) := by decide +kernel
theorem dL_holds_284 : decode cL_holds 284 = .ok (.iload 8, 2) := by decide +kernel
theorem dL_holds_286 : decode cL_holds 286 = .ok (.iconst 0, 1) := by decide +kernel
theorem dL_holds_287 : decode cL_holds 287 = .ok (.invokevirtual 24, 3) := by decide +kernel
theorem dL_holds_290 : decode cL_holds 290 = .ok (.ifCond .eq 22, 3) := by decide +kernel
theorem dL_holds_293 : decode cL_holds 293 = .ok (.aload_n 0, 1) := by decide +kernel
theorem dL_holds_294 : decode cL_holds 294 = .ok (.iload 6, 2) := by decide +kernel
theorem dL_holds_296 : decode cL_holds 296 = .ok (.iload 8, 2) := by decide +kernel
theorem dL_holds_298 : decode cL_holds 298 = .ok (.iconst 1, 1) := by decide +kernel
theorem dL_holds_299 : decode cL_holds 299 = .ok (.invokevirtual 24, 3) := by decide +kernel
theorem dL_holds_302 : decode cL_holds 302 = .ok (.i2l, 1) := by decide +kernel
theorem dL_holds_303 : decode cL_holds 303 = .ok (.aload_n 0, 1) := by decide +kernel
theorem dL_holds_304 : decode cL_holds 304 = .ok (.iconst 0, 1) := by decide +kernel
theorem dL_holds_305 : decode cL_holds 305 = .ok (.invokevirtual 9, 3) := by decide +kernel
theorem dL_holds_308 : decode cL_holds 308 = .ok (.lcmp, 1) := by decide +kernel
theorem dL_holds_309 : decode cL_holds 309 = .ok (.ifCond .ge 7, 3) := by decide +kernel
theorem dL_holds_312 : decode cL_holds 312 = .ok (.iconst 1, 1) := by decide +kernel
theorem dL_holds_313 : decode cL_holds 313 = .ok (.goto 4, 3) := by decide +kernel
theorem dL_holds_316 : decode cL_holds 316 = .ok (.iconst 0, 1) := by decide +kernel
theorem dL_holds_317 : decode cL_holds 317 = .ok (.istore 5, 2) := by decide +kernel
theorem dL_holds_319 : decode cL_holds 319 = .ok (.iinc 8 1, 3) := by decide +kernel
theorem dL_holds_322 : decode cL_holds 322 = .ok (.goto (-108), 3) := by decide +kernel
theorem dL_holds_325 : decode cL_holds 325 = .ok (.iload 5, 2) := by decide +kernel
theorem dL_holds_327 : decode cL_holds 327 = .ok (.ifCond .eq 81, 3) := by decide +kernel
theorem dL_holds_330 : decode cL_holds 330 = .ok (.iload 7, 2) := by decide +kernel
theorem dL_holds_332 : decode cL_holds 332 = .ok (.iconst 1, 1) := by decide +kernel
theorem dL_holds_333 : decode cL_holds 333 = .ok (.aload_n 0, 1) := by decide +kernel
theorem dL_holds_334 : decode cL_holds 334 = .ok (.iload 6, 2) := by decide +kernel
theorem dL_holds_336 : decode cL_holds 336 = .ok (.bipush 10, 2) := by decide +kernel

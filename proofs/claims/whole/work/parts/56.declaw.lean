/-! The law: its instructions. -/
abbrev b_Law_law : ByteArray := code
theorem d_Law_law_0 : decode b_Law_law 0 = .ok (.new 7, 3) := by decide +kernel
theorem d_Law_law_3 : decode b_Law_law 3 = .ok (.dup, 1) := by decide +kernel
theorem d_Law_law_4 : decode b_Law_law 4 = .ok (.aload_n 0, 1) := by decide +kernel
theorem d_Law_law_5 : decode b_Law_law 5 = .ok (.iconst 0, 1) := by decide +kernel
theorem d_Law_law_6 : decode b_Law_law 6 = .ok (.invokestatic 9, 3) := by decide +kernel
theorem d_Law_law_9 : decode b_Law_law 9 = .ok (.invokespecial 15, 3) := by decide +kernel
theorem d_Law_law_12 : decode b_Law_law 12 = .ok (.astore_n 1, 1) := by decide +kernel
theorem d_Law_law_13 : decode b_Law_law 13 = .ok (.new 18, 3) := by decide +kernel
theorem d_Law_law_16 : decode b_Law_law 16 = .ok (.dup, 1) := by decide +kernel
theorem d_Law_law_17 : decode b_Law_law 17 = .ok (.aload_n 0, 1) := by decide +kernel
theorem d_Law_law_18 : decode b_Law_law 18 = .ok (.iconst 0, 1) := by decide +kernel
theorem d_Law_law_19 : decode b_Law_law 19 = .ok (.invokestatic 9, 3) := by decide +kernel
theorem d_Law_law_22 : decode b_Law_law 22 = .ok (.invokespecial 20, 3) := by decide +kernel
theorem d_Law_law_25 : decode b_Law_law 25 = .ok (.astore_n 2, 1) := by decide +kernel
theorem d_Law_law_26 : decode b_Law_law 26 = .ok (.iconst 1, 1) := by decide +kernel
theorem d_Law_law_27 : decode b_Law_law 27 = .ok (.istore_n 3, 1) := by decide +kernel
theorem d_Law_law_28 : decode b_Law_law 28 = .ok (.iload_n 3, 1) := by decide +kernel
theorem d_Law_law_29 : decode b_Law_law 29 = .ok (.aload_n 0, 1) := by decide +kernel
theorem d_Law_law_30 : decode b_Law_law 30 = .ok (.arraylength, 1) := by decide +kernel
theorem d_Law_law_31 : decode b_Law_law 31 = .ok (.iconst 5, 1) := by decide +kernel
theorem d_Law_law_32 : decode b_Law_law 32 = .ok (.isub, 1) := by decide +kernel
theorem d_Law_law_33 : decode b_Law_law 33 = .ok (.if_icmp .gt 369, 3) := by decide +kernel
theorem d_Law_law_36 : decode b_Law_law 36 = .ok (.aload_n 0, 1) := by decide +kernel
theorem d_Law_law_37 : decode b_Law_law 37 = .ok (.iload_n 3, 1) := by decide +kernel
theorem d_Law_law_38 : decode b_Law_law 38 = .ok (.iaload, 1) := by decide +kernel
theorem d_Law_law_39 : decode b_Law_law 39 = .ok (.bipush 15, 2) := by decide +kernel
theorem d_Law_law_41 : decode b_Law_law 41 = .ok (.iand, 1) := by decide +kernel
theorem d_Law_law_42 : decode b_Law_law 42 = .ok (.tableswitch 354 0 9 #[54, 117, 130, 153, 166, 179, 202, 235, 258, 301], 54) := by decide +kernel
theorem d_Law_law_96 : decode b_Law_law 96 = .ok (.aload_n 1, 1) := by decide +kernel
theorem d_Law_law_97 : decode b_Law_law 97 = .ok (.aload_n 0, 1) := by decide +kernel
theorem d_Law_law_98 : decode b_Law_law 98 = .ok (.iload_n 3, 1) := by decide +kernel
theorem d_Law_law_99 : decode b_Law_law 99 = .ok (.iconst 1, 1) := by decide +kernel
theorem d_Law_law_100 : decode b_Law_law 100 = .ok (.iadd, 1) := by decide +kernel
theorem d_Law_law_101 : decode b_Law_law 101 = .ok (.iaload, 1) := by decide +kernel
theorem d_Law_law_102 : decode b_Law_law 102 = .ok (.i2l, 1) := by decide +kernel
theorem d_Law_law_103 : decode b_Law_law 103 = .ok (.bipush 32, 2) := by decide +kernel
theorem d_Law_law_105 : decode b_Law_law 105 = .ok (.lshl, 1) := by decide +kernel
theorem d_Law_law_106 : decode b_Law_law 106 = .ok (.aload_n 0, 1) := by decide +kernel
theorem d_Law_law_107 : decode b_Law_law 107 = .ok (.iload_n 3, 1) := by decide +kernel
theorem d_Law_law_108 : decode b_Law_law 108 = .ok (.iconst 2, 1) := by decide +kernel
theorem d_Law_law_109 : decode b_Law_law 109 = .ok (.iadd, 1) := by decide +kernel
theorem d_Law_law_110 : decode b_Law_law 110 = .ok (.iaload, 1) := by decide +kernel
theorem d_Law_law_111 : decode b_Law_law 111 = .ok (.i2l, 1) := by decide +kernel
theorem d_Law_law_112 : decode b_Law_law 112 = .ok (.ldc2_w 21, 3) := by decide +kernel
theorem d_Law_law_115 : decode b_Law_law 115 = .ok (.land, 1) := by decide +kernel
theorem d_Law_law_116 : decode b_Law_law 116 = .ok (.lor, 1) := by decide +kernel
theorem d_Law_law_117 : decode b_Law_law 117 = .ok (.aload_n 0, 1) := by decide +kernel
theorem d_Law_law_118 : decode b_Law_law 118 = .ok (.iload_n 3, 1) := by decide +kernel
theorem d_Law_law_119 : decode b_Law_law 119 = .ok (.iconst 3, 1) := by decide +kernel
theorem d_Law_law_120 : decode b_Law_law 120 = .ok (.iadd, 1) := by decide +kernel
theorem d_Law_law_121 : decode b_Law_law 121 = .ok (.iaload, 1) := by decide +kernel
theorem d_Law_law_122 : decode b_Law_law 122 = .ok (.invokevirtual 23, 3) := by decide +kernel
theorem d_Law_law_125 : decode b_Law_law 125 = .ok (.aload_n 2, 1) := by decide +kernel
theorem d_Law_law_126 : decode b_Law_law 126 = .ok (.aload_n 0, 1) := by decide +kernel
theorem d_Law_law_127 : decode b_Law_law 127 = .ok (.iload_n 3, 1) := by decide +kernel
theorem d_Law_law_128 : decode b_Law_law 128 = .ok (.iconst 1, 1) := by decide +kernel
theorem d_Law_law_129 : decode b_Law_law 129 = .ok (.iadd, 1) := by decide +kernel
theorem d_Law_law_130 : decode b_Law_law 130 = .ok (.iaload, 1) := by decide +kernel
theorem d_Law_law_131 : decode b_Law_law 131 = .ok (.i2l, 1) := by decide +kernel
theorem d_Law_law_132 : decode b_Law_law 132 = .ok (.bipush 32, 2) := by decide +kernel
theorem d_Law_law_134 : decode b_Law_law 134 = .ok (.lshl, 1) := by decide +kernel
theorem d_Law_law_135 : decode b_Law_law 135 = .ok (.aload_n 0, 1) := by decide +kernel
theorem d_Law_law_136 : decode b_Law_law 136 = .ok (.iload_n 3, 1) := by decide +kernel
theorem d_Law_law_137 : decode b_Law_law 137 = .ok (.iconst 2, 1) := by decide +kernel
theorem d_Law_law_138 : decode b_Law_law 138 = .ok (.iadd, 1) := by decide +kernel
theorem d_Law_law_139 : decode b_Law_law 139 = .ok (.iaload, 1) := by decide +kernel
theorem d_Law_law_140 : decode b_Law_law 140 = .ok (.i2l, 1) := by decide +kernel
theorem d_Law_law_141 : decode b_Law_law 141 = .ok (.ldc2_w 21, 3) := by decide +kernel
theorem d_Law_law_144 : decode b_Law_law 144 = .ok (.land, 1) := by decide +kernel
theorem d_Law_law_145 : decode b_Law_law 145 = .ok (.lor, 1) := by decide +kernel
theorem d_Law_law_146 : decode b_Law_law 146 = .ok (.aload_n 0, 1) := by decide +kernel
theorem d_Law_law_147 : decode b_Law_law 147 = .ok (.iload_n 3, 1) := by decide +kernel
theorem d_Law_law_148 : decode b_Law_law 148 = .ok (.iconst 3, 1) := by decide +kernel
theorem d_Law_law_149 : decode b_Law_law 149 = .ok (.iadd, 1) := by decide +kernel
theorem d_Law_law_150 : decode b_Law_law 150 = .ok (.iaload, 1) := by decide +kernel
theorem d_Law_law_151 : decode b_Law_law 151 = .ok (.invokevirtual 27, 3) := by decide +kernel
theorem d_Law_law_154 : decode b_Law_law 154 = .ok (.if_icmp .eq 242, 3) := by decide +kernel
theorem d_Law_law_157 : decode b_Law_law 157 = .ok (.iconst 0, 1) := by decide +kernel
theorem d_Law_law_158 : decode b_Law_law 158 = .ok (.ireturn, 1) := by decide +kernel
theorem d_Law_law_159 : decode b_Law_law 159 = .ok (.aload_n 1, 1) := by decide +kernel
theorem d_Law_law_160 : decode b_Law_law 160 = .ok (.invokevirtual 28, 3) := by decide +kernel
theorem d_Law_law_163 : decode b_Law_law 163 = .ok (.aload_n 2, 1) := by decide +kernel
theorem d_Law_law_164 : decode b_Law_law 164 = .ok (.invokevirtual 32, 3) := by decide +kernel
theorem d_Law_law_167 : decode b_Law_law 167 = .ok (.if_icmp .eq 229, 3) := by decide +kernel
theorem d_Law_law_170 : decode b_Law_law 170 = .ok (.iconst 0, 1) := by decide +kernel
theorem d_Law_law_171 : decode b_Law_law 171 = .ok (.ireturn, 1) := by decide +kernel
theorem d_Law_law_172 : decode b_Law_law 172 = .ok (.aload_n 1, 1) := by decide +kernel
theorem d_Law_law_173 : decode b_Law_law 173 = .ok (.aload_n 0, 1) := by decide +kernel
theorem d_Law_law_174 : decode b_Law_law 174 = .ok (.iload_n 3, 1) := by decide +kernel
theorem d_Law_law_175 : decode b_Law_law 175 = .ok (.iconst 1, 1) := by decide +kernel
theorem d_Law_law_176 : decode b_Law_law 176 = .ok (.iadd, 1) := by decide +kernel
theorem d_Law_law_177 : decode b_Law_law 177 = .ok (.iaload, 1) := by decide +kernel
theorem d_Law_law_178 : decode b_Law_law 178 = .ok (.invokevirtual 33, 3) := by decide +kernel
theorem d_Law_law_181 : decode b_Law_law 181 = .ok (.aload_n 2, 1) := by decide +kernel
theorem d_Law_law_182 : decode b_Law_law 182 = .ok (.aload_n 0, 1) := by decide +kernel
theorem d_Law_law_183 : decode b_Law_law 183 = .ok (.iload_n 3, 1) := by decide +kernel
theorem d_Law_law_184 : decode b_Law_law 184 = .ok (.iconst 1, 1) := by decide +kernel
theorem d_Law_law_185 : decode b_Law_law 185 = .ok (.iadd, 1) := by decide +kernel
theorem d_Law_law_186 : decode b_Law_law 186 = .ok (.iaload, 1) := by decide +kernel
theorem d_Law_law_187 : decode b_Law_law 187 = .ok (.invokevirtual 37, 3) := by decide +kernel
theorem d_Law_law_190 : decode b_Law_law 190 = .ok (.if_icmp .eq 206, 3) := by decide +kernel
theorem d_Law_law_193 : decode b_Law_law 193 = .ok (.iconst 0, 1) := by decide +kernel
theorem d_Law_law_194 : decode b_Law_law 194 = .ok (.ireturn, 1) := by decide +kernel
theorem d_Law_law_195 : decode b_Law_law 195 = .ok (.aload_n 1, 1) := by decide +kernel
theorem d_Law_law_196 : decode b_Law_law 196 = .ok (.invokevirtual 38, 3) := by decide +kernel
theorem d_Law_law_199 : decode b_Law_law 199 = .ok (.aload_n 2, 1) := by decide +kernel
theorem d_Law_law_200 : decode b_Law_law 200 = .ok (.invokevirtual 42, 3) := by decide +kernel
theorem d_Law_law_203 : decode b_Law_law 203 = .ok (.if_icmp .eq 193, 3) := by decide +kernel
theorem d_Law_law_206 : decode b_Law_law 206 = .ok (.iconst 0, 1) := by decide +kernel
theorem d_Law_law_207 : decode b_Law_law 207 = .ok (.ireturn, 1) := by decide +kernel
theorem d_Law_law_208 : decode b_Law_law 208 = .ok (.aload_n 1, 1) := by decide +kernel
theorem d_Law_law_209 : decode b_Law_law 209 = .ok (.invokevirtual 43, 3) := by decide +kernel
theorem d_Law_law_212 : decode b_Law_law 212 = .ok (.aload_n 2, 1) := by decide +kernel
theorem d_Law_law_213 : decode b_Law_law 213 = .ok (.invokevirtual 46, 3) := by decide +kernel
theorem d_Law_law_216 : decode b_Law_law 216 = .ok (.if_icmp .eq 180, 3) := by decide +kernel
theorem d_Law_law_219 : decode b_Law_law 219 = .ok (.iconst 0, 1) := by decide +kernel
theorem d_Law_law_220 : decode b_Law_law 220 = .ok (.ireturn, 1) := by decide +kernel
theorem d_Law_law_221 : decode b_Law_law 221 = .ok (.aload_n 1, 1) := by decide +kernel
theorem d_Law_law_222 : decode b_Law_law 222 = .ok (.aload_n 0, 1) := by decide +kernel
theorem d_Law_law_223 : decode b_Law_law 223 = .ok (.iload_n 3, 1) := by decide +kernel
theorem d_Law_law_224 : decode b_Law_law 224 = .ok (.iconst 1, 1) := by decide +kernel
theorem d_Law_law_225 : decode b_Law_law 225 = .ok (.iadd, 1) := by decide +kernel
theorem d_Law_law_226 : decode b_Law_law 226 = .ok (.iaload, 1) := by decide +kernel
theorem d_Law_law_227 : decode b_Law_law 227 = .ok (.invokevirtual 47, 3) := by decide +kernel
theorem d_Law_law_230 : decode b_Law_law 230 = .ok (.aload_n 2, 1) := by decide +kernel
theorem d_Law_law_231 : decode b_Law_law 231 = .ok (.aload_n 0, 1) := by decide +kernel
theorem d_Law_law_232 : decode b_Law_law 232 = .ok (.iload_n 3, 1) := by decide +kernel
theorem d_Law_law_233 : decode b_Law_law 233 = .ok (.iconst 1, 1) := by decide +kernel
theorem d_Law_law_234 : decode b_Law_law 234 = .ok (.iadd, 1) := by decide +kernel
theorem d_Law_law_235 : decode b_Law_law 235 = .ok (.iaload, 1) := by decide +kernel
theorem d_Law_law_236 : decode b_Law_law 236 = .ok (.invokevirtual 51, 3) := by decide +kernel
theorem d_Law_law_239 : decode b_Law_law 239 = .ok (.if_icmp .eq 157, 3) := by decide +kernel
theorem d_Law_law_242 : decode b_Law_law 242 = .ok (.iconst 0, 1) := by decide +kernel
theorem d_Law_law_243 : decode b_Law_law 243 = .ok (.ireturn, 1) := by decide +kernel
theorem d_Law_law_244 : decode b_Law_law 244 = .ok (.aload_n 1, 1) := by decide +kernel
theorem d_Law_law_245 : decode b_Law_law 245 = .ok (.aload_n 0, 1) := by decide +kernel
theorem d_Law_law_246 : decode b_Law_law 246 = .ok (.iload_n 3, 1) := by decide +kernel
theorem d_Law_law_247 : decode b_Law_law 247 = .ok (.iconst 1, 1) := by decide +kernel
theorem d_Law_law_248 : decode b_Law_law 248 = .ok (.iadd, 1) := by decide +kernel
theorem d_Law_law_249 : decode b_Law_law 249 = .ok (.iaload, 1) := by decide +kernel
theorem d_Law_law_250 : decode b_Law_law 250 = .ok (.aload_n 0, 1) := by decide +kernel
theorem d_Law_law_251 : decode b_Law_law 251 = .ok (.iload_n 3, 1) := by decide +kernel
theorem d_Law_law_252 : decode b_Law_law 252 = .ok (.iconst 2, 1) := by decide +kernel
theorem d_Law_law_253 : decode b_Law_law 253 = .ok (.iadd, 1) := by decide +kernel
theorem d_Law_law_254 : decode b_Law_law 254 = .ok (.iaload, 1) := by decide +kernel
theorem d_Law_law_255 : decode b_Law_law 255 = .ok (.invokevirtual 52, 3) := by decide +kernel
theorem d_Law_law_258 : decode b_Law_law 258 = .ok (.aload_n 2, 1) := by decide +kernel
theorem d_Law_law_259 : decode b_Law_law 259 = .ok (.aload_n 0, 1) := by decide +kernel
theorem d_Law_law_260 : decode b_Law_law 260 = .ok (.iload_n 3, 1) := by decide +kernel
theorem d_Law_law_261 : decode b_Law_law 261 = .ok (.iconst 1, 1) := by decide +kernel
theorem d_Law_law_262 : decode b_Law_law 262 = .ok (.iadd, 1) := by decide +kernel
theorem d_Law_law_263 : decode b_Law_law 263 = .ok (.iaload, 1) := by decide +kernel
theorem d_Law_law_264 : decode b_Law_law 264 = .ok (.aload_n 0, 1) := by decide +kernel
theorem d_Law_law_265 : decode b_Law_law 265 = .ok (.iload_n 3, 1) := by decide +kernel
theorem d_Law_law_266 : decode b_Law_law 266 = .ok (.iconst 2, 1) := by decide +kernel
theorem d_Law_law_267 : decode b_Law_law 267 = .ok (.iadd, 1) := by decide +kernel
theorem d_Law_law_268 : decode b_Law_law 268 = .ok (.iaload, 1) := by decide +kernel
theorem d_Law_law_269 : decode b_Law_law 269 = .ok (.invokevirtual 56, 3) := by decide +kernel
theorem d_Law_law_272 : decode b_Law_law 272 = .ok (.if_icmp .eq 124, 3) := by decide +kernel
theorem d_Law_law_275 : decode b_Law_law 275 = .ok (.iconst 0, 1) := by decide +kernel
theorem d_Law_law_276 : decode b_Law_law 276 = .ok (.ireturn, 1) := by decide +kernel
theorem d_Law_law_277 : decode b_Law_law 277 = .ok (.aload_n 1, 1) := by decide +kernel
theorem d_Law_law_278 : decode b_Law_law 278 = .ok (.aload_n 0, 1) := by decide +kernel
theorem d_Law_law_279 : decode b_Law_law 279 = .ok (.iload_n 3, 1) := by decide +kernel
theorem d_Law_law_280 : decode b_Law_law 280 = .ok (.iconst 1, 1) := by decide +kernel
theorem d_Law_law_281 : decode b_Law_law 281 = .ok (.iadd, 1) := by decide +kernel
theorem d_Law_law_282 : decode b_Law_law 282 = .ok (.iaload, 1) := by decide +kernel
theorem d_Law_law_283 : decode b_Law_law 283 = .ok (.invokevirtual 57, 3) := by decide +kernel
theorem d_Law_law_286 : decode b_Law_law 286 = .ok (.aload_n 2, 1) := by decide +kernel
theorem d_Law_law_287 : decode b_Law_law 287 = .ok (.aload_n 0, 1) := by decide +kernel
theorem d_Law_law_288 : decode b_Law_law 288 = .ok (.iload_n 3, 1) := by decide +kernel
theorem d_Law_law_289 : decode b_Law_law 289 = .ok (.iconst 1, 1) := by decide +kernel
theorem d_Law_law_290 : decode b_Law_law 290 = .ok (.iadd, 1) := by decide +kernel
theorem d_Law_law_291 : decode b_Law_law 291 = .ok (.iaload, 1) := by decide +kernel
theorem d_Law_law_292 : decode b_Law_law 292 = .ok (.invokevirtual 60, 3) := by decide +kernel
theorem d_Law_law_295 : decode b_Law_law 295 = .ok (.if_icmp .eq 101, 3) := by decide +kernel
theorem d_Law_law_298 : decode b_Law_law 298 = .ok (.iconst 0, 1) := by decide +kernel
theorem d_Law_law_299 : decode b_Law_law 299 = .ok (.ireturn, 1) := by decide +kernel
theorem d_Law_law_300 : decode b_Law_law 300 = .ok (.aload_n 1, 1) := by decide +kernel
theorem d_Law_law_301 : decode b_Law_law 301 = .ok (.aload_n 0, 1) := by decide +kernel
theorem d_Law_law_302 : decode b_Law_law 302 = .ok (.iload_n 3, 1) := by decide +kernel
theorem d_Law_law_303 : decode b_Law_law 303 = .ok (.iconst 1, 1) := by decide +kernel
theorem d_Law_law_304 : decode b_Law_law 304 = .ok (.iadd, 1) := by decide +kernel
theorem d_Law_law_305 : decode b_Law_law 305 = .ok (.iaload, 1) := by decide +kernel
theorem d_Law_law_306 : decode b_Law_law 306 = .ok (.aload_n 0, 1) := by decide +kernel
theorem d_Law_law_307 : decode b_Law_law 307 = .ok (.iload_n 3, 1) := by decide +kernel
theorem d_Law_law_308 : decode b_Law_law 308 = .ok (.iconst 2, 1) := by decide +kernel
theorem d_Law_law_309 : decode b_Law_law 309 = .ok (.iadd, 1) := by decide +kernel
theorem d_Law_law_310 : decode b_Law_law 310 = .ok (.iaload, 1) := by decide +kernel
theorem d_Law_law_311 : decode b_Law_law 311 = .ok (.aload_n 0, 1) := by decide +kernel
theorem d_Law_law_312 : decode b_Law_law 312 = .ok (.iload_n 3, 1) := by decide +kernel
theorem d_Law_law_313 : decode b_Law_law 313 = .ok (.iconst 3, 1) := by decide +kernel
theorem d_Law_law_314 : decode b_Law_law 314 = .ok (.iadd, 1) := by decide +kernel
theorem d_Law_law_315 : decode b_Law_law 315 = .ok (.iaload, 1) := by decide +kernel
theorem d_Law_law_316 : decode b_Law_law 316 = .ok (.invokevirtual 61, 3) := by decide +kernel
theorem d_Law_law_319 : decode b_Law_law 319 = .ok (.aload_n 2, 1) := by decide +kernel
theorem d_Law_law_320 : decode b_Law_law 320 = .ok (.aload_n 0, 1) := by decide +kernel
theorem d_Law_law_321 : decode b_Law_law 321 = .ok (.iload_n 3, 1) := by decide +kernel
theorem d_Law_law_322 : decode b_Law_law 322 = .ok (.iconst 1, 1) := by decide +kernel
theorem d_Law_law_323 : decode b_Law_law 323 = .ok (.iadd, 1) := by decide +kernel
theorem d_Law_law_324 : decode b_Law_law 324 = .ok (.iaload, 1) := by decide +kernel
theorem d_Law_law_325 : decode b_Law_law 325 = .ok (.aload_n 0, 1) := by decide +kernel
theorem d_Law_law_326 : decode b_Law_law 326 = .ok (.iload_n 3, 1) := by decide +kernel
theorem d_Law_law_327 : decode b_Law_law 327 = .ok (.iconst 2, 1) := by decide +kernel
theorem d_Law_law_328 : decode b_Law_law 328 = .ok (.iadd, 1) := by decide +kernel
theorem d_Law_law_329 : decode b_Law_law 329 = .ok (.iaload, 1) := by decide +kernel
theorem d_Law_law_330 : decode b_Law_law 330 = .ok (.aload_n 0, 1) := by decide +kernel
theorem d_Law_law_331 : decode b_Law_law 331 = .ok (.iload_n 3, 1) := by decide +kernel
theorem d_Law_law_332 : decode b_Law_law 332 = .ok (.iconst 3, 1) := by decide +kernel
theorem d_Law_law_333 : decode b_Law_law 333 = .ok (.iadd, 1) := by decide +kernel
theorem d_Law_law_334 : decode b_Law_law 334 = .ok (.iaload, 1) := by decide +kernel
theorem d_Law_law_335 : decode b_Law_law 335 = .ok (.invokevirtual 65, 3) := by decide +kernel
theorem d_Law_law_338 : decode b_Law_law 338 = .ok (.if_icmp .eq 58, 3) := by decide +kernel
theorem d_Law_law_341 : decode b_Law_law 341 = .ok (.iconst 0, 1) := by decide +kernel
theorem d_Law_law_342 : decode b_Law_law 342 = .ok (.ireturn, 1) := by decide +kernel
theorem d_Law_law_343 : decode b_Law_law 343 = .ok (.aload_n 1, 1) := by decide +kernel
theorem d_Law_law_344 : decode b_Law_law 344 = .ok (.aload_n 0, 1) := by decide +kernel
theorem d_Law_law_345 : decode b_Law_law 345 = .ok (.iload_n 3, 1) := by decide +kernel
theorem d_Law_law_346 : decode b_Law_law 346 = .ok (.iconst 1, 1) := by decide +kernel
theorem d_Law_law_347 : decode b_Law_law 347 = .ok (.iadd, 1) := by decide +kernel
theorem d_Law_law_348 : decode b_Law_law 348 = .ok (.iaload, 1) := by decide +kernel
theorem d_Law_law_349 : decode b_Law_law 349 = .ok (.aload_n 0, 1) := by decide +kernel
theorem d_Law_law_350 : decode b_Law_law 350 = .ok (.iload_n 3, 1) := by decide +kernel
theorem d_Law_law_351 : decode b_Law_law 351 = .ok (.iconst 2, 1) := by decide +kernel
theorem d_Law_law_352 : decode b_Law_law 352 = .ok (.iadd, 1) := by decide +kernel
theorem d_Law_law_353 : decode b_Law_law 353 = .ok (.iaload, 1) := by decide +kernel
theorem d_Law_law_354 : decode b_Law_law 354 = .ok (.aload_n 0, 1) := by decide +kernel
theorem d_Law_law_355 : decode b_Law_law 355 = .ok (.iload_n 3, 1) := by decide +kernel
theorem d_Law_law_356 : decode b_Law_law 356 = .ok (.iconst 3, 1) := by decide +kernel
theorem d_Law_law_357 : decode b_Law_law 357 = .ok (.iadd, 1) := by decide +kernel
theorem d_Law_law_358 : decode b_Law_law 358 = .ok (.iaload, 1) := by decide +kernel
theorem d_Law_law_359 : decode b_Law_law 359 = .ok (.aload_n 0, 1) := by decide +kernel
theorem d_Law_law_360 : decode b_Law_law 360 = .ok (.iload_n 3, 1) := by decide +kernel
theorem d_Law_law_361 : decode b_Law_law 361 = .ok (.iconst 4, 1) := by decide +kernel
theorem d_Law_law_362 : decode b_Law_law 362 = .ok (.iadd, 1) := by decide +kernel
theorem d_Law_law_363 : decode b_Law_law 363 = .ok (.iaload, 1) := by decide +kernel
theorem d_Law_law_364 : decode b_Law_law 364 = .ok (.invokevirtual 66, 3) := by decide +kernel
theorem d_Law_law_367 : decode b_Law_law 367 = .ok (.aload_n 2, 1) := by decide +kernel
theorem d_Law_law_368 : decode b_Law_law 368 = .ok (.aload_n 0, 1) := by decide +kernel
theorem d_Law_law_369 : decode b_Law_law 369 = .ok (.iload_n 3, 1) := by decide +kernel
theorem d_Law_law_370 : decode b_Law_law 370 = .ok (.iconst 1, 1) := by decide +kernel
theorem d_Law_law_371 : decode b_Law_law 371 = .ok (.iadd, 1) := by decide +kernel
theorem d_Law_law_372 : decode b_Law_law 372 = .ok (.iaload, 1) := by decide +kernel
theorem d_Law_law_373 : decode b_Law_law 373 = .ok (.aload_n 0, 1) := by decide +kernel
theorem d_Law_law_374 : decode b_Law_law 374 = .ok (.iload_n 3, 1) := by decide +kernel
theorem d_Law_law_375 : decode b_Law_law 375 = .ok (.iconst 2, 1) := by decide +kernel
theorem d_Law_law_376 : decode b_Law_law 376 = .ok (.iadd, 1) := by decide +kernel
theorem d_Law_law_377 : decode b_Law_law 377 = .ok (.iaload, 1) := by decide +kernel
theorem d_Law_law_378 : decode b_Law_law 378 = .ok (.aload_n 0, 1) := by decide +kernel
theorem d_Law_law_379 : decode b_Law_law 379 = .ok (.iload_n 3, 1) := by decide +kernel
theorem d_Law_law_380 : decode b_Law_law 380 = .ok (.iconst 3, 1) := by decide +kernel
theorem d_Law_law_381 : decode b_Law_law 381 = .ok (.iadd, 1) := by decide +kernel
theorem d_Law_law_382 : decode b_Law_law 382 = .ok (.iaload, 1) := by decide +kernel
theorem d_Law_law_383 : decode b_Law_law 383 = .ok (.aload_n 0, 1) := by decide +kernel
theorem d_Law_law_384 : decode b_Law_law 384 = .ok (.iload_n 3, 1) := by decide +kernel
theorem d_Law_law_385 : decode b_Law_law 385 = .ok (.iconst 4, 1) := by decide +kernel
theorem d_Law_law_386 : decode b_Law_law 386 = .ok (.iadd, 1) := by decide +kernel
theorem d_Law_law_387 : decode b_Law_law 387 = .ok (.iaload, 1) := by decide +kernel
theorem d_Law_law_388 : decode b_Law_law 388 = .ok (.invokevirtual 70, 3) := by decide +kernel
theorem d_Law_law_391 : decode b_Law_law 391 = .ok (.if_icmp .eq 5, 3) := by decide +kernel
theorem d_Law_law_394 : decode b_Law_law 394 = .ok (.iconst 0, 1) := by decide +kernel
theorem d_Law_law_395 : decode b_Law_law 395 = .ok (.ireturn, 1) := by decide +kernel
theorem d_Law_law_396 : decode b_Law_law 396 = .ok (.iinc 3 5, 3) := by decide +kernel
theorem d_Law_law_399 : decode b_Law_law 399 = .ok (.goto (-371), 3) := by decide +kernel
theorem d_Law_law_402 : decode b_Law_law 402 = .ok (.iconst 1, 1) := by decide +kernel
theorem d_Law_law_403 : decode b_Law_law 403 = .ok (.ireturn, 1) := by decide +kernel

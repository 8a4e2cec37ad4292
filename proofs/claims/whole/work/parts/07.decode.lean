theorem d_MO_digit_0 : decode b_MO_digit 0 = .ok (.iload_n 1, 1) := by decide +kernel
theorem d_MO_digit_1 : decode b_MO_digit 1 = .ok (.bipush 48, 2) := by decide +kernel
theorem d_MO_digit_3 : decode b_MO_digit 3 = .ok (.if_icmp .lt 13, 3) := by decide +kernel
theorem d_MO_digit_6 : decode b_MO_digit 6 = .ok (.iload_n 1, 1) := by decide +kernel
theorem d_MO_digit_7 : decode b_MO_digit 7 = .ok (.bipush 57, 2) := by decide +kernel
theorem d_MO_digit_9 : decode b_MO_digit 9 = .ok (.if_icmp .gt 7, 3) := by decide +kernel
theorem d_MO_digit_12 : decode b_MO_digit 12 = .ok (.iconst 1, 1) := by decide +kernel
theorem d_MO_digit_13 : decode b_MO_digit 13 = .ok (.goto 4, 3) := by decide +kernel
theorem d_MO_digit_16 : decode b_MO_digit 16 = .ok (.iconst 0, 1) := by decide +kernel
theorem d_MO_digit_17 : decode b_MO_digit 17 = .ok (.ireturn, 1) := by decide +kernel
theorem d_MO_blank_0 : decode b_MO_blank 0 = .ok (.iload_n 1, 1) := by decide +kernel
theorem d_MO_blank_1 : decode b_MO_blank 1 = .ok (.bipush 9, 2) := by decide +kernel
theorem d_MO_blank_3 : decode b_MO_blank 3 = .ok (.if_icmp .eq 65, 3) := by decide +kernel
theorem d_MO_blank_6 : decode b_MO_blank 6 = .ok (.iload_n 1, 1) := by decide +kernel
theorem d_MO_blank_7 : decode b_MO_blank 7 = .ok (.bipush 32, 2) := by decide +kernel
theorem d_MO_blank_9 : decode b_MO_blank 9 = .ok (.if_icmp .eq 59, 3) := by decide +kernel
theorem d_MO_blank_12 : decode b_MO_blank 12 = .ok (.iload_n 1, 1) := by decide +kernel
theorem d_MO_blank_13 : decode b_MO_blank 13 = .ok (.sipush 160, 3) := by decide +kernel
theorem d_MO_blank_16 : decode b_MO_blank 16 = .ok (.if_icmp .eq 52, 3) := by decide +kernel
theorem d_MO_blank_19 : decode b_MO_blank 19 = .ok (.iload_n 1, 1) := by decide +kernel
theorem d_MO_blank_20 : decode b_MO_blank 20 = .ok (.sipush 5760, 3) := by decide +kernel
theorem d_MO_blank_23 : decode b_MO_blank 23 = .ok (.if_icmp .eq 45, 3) := by decide +kernel
theorem d_MO_blank_26 : decode b_MO_blank 26 = .ok (.iload_n 1, 1) := by decide +kernel
theorem d_MO_blank_27 : decode b_MO_blank 27 = .ok (.sipush 6158, 3) := by decide +kernel
theorem d_MO_blank_30 : decode b_MO_blank 30 = .ok (.if_icmp .eq 38, 3) := by decide +kernel
theorem d_MO_blank_33 : decode b_MO_blank 33 = .ok (.iload_n 1, 1) := by decide +kernel
theorem d_MO_blank_34 : decode b_MO_blank 34 = .ok (.sipush 8192, 3) := by decide +kernel
theorem d_MO_blank_37 : decode b_MO_blank 37 = .ok (.if_icmp .lt 10, 3) := by decide +kernel
theorem d_MO_blank_40 : decode b_MO_blank 40 = .ok (.iload_n 1, 1) := by decide +kernel
theorem d_MO_blank_41 : decode b_MO_blank 41 = .ok (.sipush 8202, 3) := by decide +kernel
theorem d_MO_blank_44 : decode b_MO_blank 44 = .ok (.if_icmp .le 24, 3) := by decide +kernel
theorem d_MO_blank_47 : decode b_MO_blank 47 = .ok (.iload_n 1, 1) := by decide +kernel
theorem d_MO_blank_48 : decode b_MO_blank 48 = .ok (.sipush 8239, 3) := by decide +kernel
theorem d_MO_blank_51 : decode b_MO_blank 51 = .ok (.if_icmp .eq 17, 3) := by decide +kernel
theorem d_MO_blank_54 : decode b_MO_blank 54 = .ok (.iload_n 1, 1) := by decide +kernel
theorem d_MO_blank_55 : decode b_MO_blank 55 = .ok (.sipush 8287, 3) := by decide +kernel
theorem d_MO_blank_58 : decode b_MO_blank 58 = .ok (.if_icmp .eq 10, 3) := by decide +kernel
theorem d_MO_blank_61 : decode b_MO_blank 61 = .ok (.iload_n 1, 1) := by decide +kernel
theorem d_MO_blank_62 : decode b_MO_blank 62 = .ok (.sipush 12288, 3) := by decide +kernel
theorem d_MO_blank_65 : decode b_MO_blank 65 = .ok (.if_icmp .ne 7, 3) := by decide +kernel
theorem d_MO_blank_68 : decode b_MO_blank 68 = .ok (.iconst 1, 1) := by decide +kernel
theorem d_MO_blank_69 : decode b_MO_blank 69 = .ok (.goto 4, 3) := by decide +kernel
theorem d_MO_blank_72 : decode b_MO_blank 72 = .ok (.iconst 0, 1) := by decide +kernel
theorem d_MO_blank_73 : decode b_MO_blank 73 = .ok (.ireturn, 1) := by decide +kernel
theorem d_MO_plainly_0 : decode b_MO_plainly 0 = .ok (.iload_n 2, 1) := by decide +kernel
theorem d_MO_plainly_1 : decode b_MO_plainly 1 = .ok (.bipush 33, 2) := by decide +kernel
theorem d_MO_plainly_3 : decode b_MO_plainly 3 = .ok (.if_icmp .lt 13, 3) := by decide +kernel
theorem d_MO_plainly_6 : decode b_MO_plainly 6 = .ok (.iload_n 2, 1) := by decide +kernel
theorem d_MO_plainly_7 : decode b_MO_plainly 7 = .ok (.bipush 126, 2) := by decide +kernel
theorem d_MO_plainly_9 : decode b_MO_plainly 9 = .ok (.if_icmp .gt 7, 3) := by decide +kernel
theorem d_MO_plainly_12 : decode b_MO_plainly 12 = .ok (.iconst 1, 1) := by decide +kernel
theorem d_MO_plainly_13 : decode b_MO_plainly 13 = .ok (.goto 4, 3) := by decide +kernel
theorem d_MO_plainly_16 : decode b_MO_plainly 16 = .ok (.iconst 0, 1) := by decide +kernel
theorem d_MO_plainly_17 : decode b_MO_plainly 17 = .ok (.istore_n 3, 1) := by decide +kernel
theorem d_MO_plainly_18 : decode b_MO_plainly 18 = .ok (.iload_n 1, 1) := by decide +kernel
theorem d_MO_plainly_19 : decode b_MO_plainly 19 = .ok (.tableswitch 374 0 17 #[85, 91, 119, 143, 149, 188, 194, 214, 85, 234, 91, 119, 256, 274, 292, 294, 310, 336], 85) := by decide +kernel
theorem d_MO_plainly_104 : decode b_MO_plainly 104 = .ok (.aload_n 0, 1) := by decide +kernel
theorem d_MO_plainly_105 : decode b_MO_plainly 105 = .ok (.iload_n 2, 1) := by decide +kernel
theorem d_MO_plainly_106 : decode b_MO_plainly 106 = .ok (.invokevirtual 137, 3) := by decide +kernel
theorem d_MO_plainly_109 : decode b_MO_plainly 109 = .ok (.ireturn, 1) := by decide +kernel
theorem d_MO_plainly_110 : decode b_MO_plainly 110 = .ok (.aload_n 0, 1) := by decide +kernel
theorem d_MO_plainly_111 : decode b_MO_plainly 111 = .ok (.iload_n 2, 1) := by decide +kernel
theorem d_MO_plainly_112 : decode b_MO_plainly 112 = .ok (.invokevirtual 140, 3) := by decide +kernel
theorem d_MO_plainly_115 : decode b_MO_plainly 115 = .ok (.ifCond .ne 17, 3) := by decide +kernel
theorem d_MO_plainly_118 : decode b_MO_plainly 118 = .ok (.aload_n 0, 1) := by decide +kernel
theorem d_MO_plainly_119 : decode b_MO_plainly 119 = .ok (.iload_n 2, 1) := by decide +kernel
theorem d_MO_plainly_120 : decode b_MO_plainly 120 = .ok (.invokevirtual 137, 3) := by decide +kernel
theorem d_MO_plainly_123 : decode b_MO_plainly 123 = .ok (.ifCond .ne 9, 3) := by decide +kernel
theorem d_MO_plainly_126 : decode b_MO_plainly 126 = .ok (.iload_n 2, 1) := by decide +kernel
theorem d_MO_plainly_127 : decode b_MO_plainly 127 = .ok (.bipush 95, 2) := by decide +kernel
theorem d_MO_plainly_129 : decode b_MO_plainly 129 = .ok (.if_icmp .ne 7, 3) := by decide +kernel
theorem d_MO_plainly_132 : decode b_MO_plainly 132 = .ok (.iconst 1, 1) := by decide +kernel
theorem d_MO_plainly_133 : decode b_MO_plainly 133 = .ok (.goto 4, 3) := by decide +kernel
theorem d_MO_plainly_136 : decode b_MO_plainly 136 = .ok (.iconst 0, 1) := by decide +kernel
theorem d_MO_plainly_137 : decode b_MO_plainly 137 = .ok (.ireturn, 1) := by decide +kernel
theorem d_MO_plainly_138 : decode b_MO_plainly 138 = .ok (.iload_n 2, 1) := by decide +kernel
theorem d_MO_plainly_139 : decode b_MO_plainly 139 = .ok (.bipush 9, 2) := by decide +kernel
theorem d_MO_plainly_141 : decode b_MO_plainly 141 = .ok (.if_icmp .lt 9, 3) := by decide +kernel
theorem d_MO_plainly_144 : decode b_MO_plainly 144 = .ok (.iload_n 2, 1) := by decide +kernel
theorem d_MO_plainly_145 : decode b_MO_plainly 145 = .ok (.bipush 13, 2) := by decide +kernel
theorem d_MO_plainly_147 : decode b_MO_plainly 147 = .ok (.if_icmp .le 9, 3) := by decide +kernel
theorem d_MO_plainly_150 : decode b_MO_plainly 150 = .ok (.iload_n 2, 1) := by decide +kernel
theorem d_MO_plainly_151 : decode b_MO_plainly 151 = .ok (.bipush 32, 2) := by decide +kernel
theorem d_MO_plainly_153 : decode b_MO_plainly 153 = .ok (.if_icmp .ne 7, 3) := by decide +kernel
theorem d_MO_plainly_156 : decode b_MO_plainly 156 = .ok (.iconst 1, 1) := by decide +kernel
theorem d_MO_plainly_157 : decode b_MO_plainly 157 = .ok (.goto 4, 3) := by decide +kernel
theorem d_MO_plainly_160 : decode b_MO_plainly 160 = .ok (.iconst 0, 1) := by decide +kernel
theorem d_MO_plainly_161 : decode b_MO_plainly 161 = .ok (.ireturn, 1) := by decide +kernel
theorem d_MO_plainly_162 : decode b_MO_plainly 162 = .ok (.aload_n 0, 1) := by decide +kernel
theorem d_MO_plainly_163 : decode b_MO_plainly 163 = .ok (.iload_n 2, 1) := by decide +kernel
theorem d_MO_plainly_164 : decode b_MO_plainly 164 = .ok (.invokevirtual 143, 3) := by decide +kernel
theorem d_MO_plainly_167 : decode b_MO_plainly 167 = .ok (.ireturn, 1) := by decide +kernel
theorem d_MO_plainly_168 : decode b_MO_plainly 168 = .ok (.iload_n 2, 1) := by decide +kernel
theorem d_MO_plainly_169 : decode b_MO_plainly 169 = .ok (.bipush 10, 2) := by decide +kernel
theorem d_MO_plainly_171 : decode b_MO_plainly 171 = .ok (.if_icmp .lt 9, 3) := by decide +kernel
theorem d_MO_plainly_174 : decode b_MO_plainly 174 = .ok (.iload_n 2, 1) := by decide +kernel
theorem d_MO_plainly_175 : decode b_MO_plainly 175 = .ok (.bipush 13, 2) := by decide +kernel
theorem d_MO_plainly_177 : decode b_MO_plainly 177 = .ok (.if_icmp .le 24, 3) := by decide +kernel
theorem d_MO_plainly_180 : decode b_MO_plainly 180 = .ok (.iload_n 2, 1) := by decide +kernel
theorem d_MO_plainly_181 : decode b_MO_plainly 181 = .ok (.sipush 133, 3) := by decide +kernel
theorem d_MO_plainly_184 : decode b_MO_plainly 184 = .ok (.if_icmp .eq 17, 3) := by decide +kernel
theorem d_MO_plainly_187 : decode b_MO_plainly 187 = .ok (.iload_n 2, 1) := by decide +kernel
theorem d_MO_plainly_188 : decode b_MO_plainly 188 = .ok (.sipush 8232, 3) := by decide +kernel
theorem d_MO_plainly_191 : decode b_MO_plainly 191 = .ok (.if_icmp .eq 10, 3) := by decide +kernel
theorem d_MO_plainly_194 : decode b_MO_plainly 194 = .ok (.iload_n 2, 1) := by decide +kernel
theorem d_MO_plainly_195 : decode b_MO_plainly 195 = .ok (.sipush 8233, 3) := by decide +kernel
theorem d_MO_plainly_198 : decode b_MO_plainly 198 = .ok (.if_icmp .ne 7, 3) := by decide +kernel
theorem d_MO_plainly_201 : decode b_MO_plainly 201 = .ok (.iconst 1, 1) := by decide +kernel
theorem d_MO_plainly_202 : decode b_MO_plainly 202 = .ok (.goto 4, 3) := by decide +kernel
theorem d_MO_plainly_205 : decode b_MO_plainly 205 = .ok (.iconst 0, 1) := by decide +kernel
theorem d_MO_plainly_206 : decode b_MO_plainly 206 = .ok (.ireturn, 1) := by decide +kernel
theorem d_MO_plainly_207 : decode b_MO_plainly 207 = .ok (.aload_n 0, 1) := by decide +kernel
theorem d_MO_plainly_208 : decode b_MO_plainly 208 = .ok (.iload_n 2, 1) := by decide +kernel
theorem d_MO_plainly_209 : decode b_MO_plainly 209 = .ok (.invokevirtual 140, 3) := by decide +kernel
theorem d_MO_plainly_212 : decode b_MO_plainly 212 = .ok (.ireturn, 1) := by decide +kernel
theorem d_MO_plainly_213 : decode b_MO_plainly 213 = .ok (.aload_n 0, 1) := by decide +kernel
theorem d_MO_plainly_214 : decode b_MO_plainly 214 = .ok (.iload_n 2, 1) := by decide +kernel
theorem d_MO_plainly_215 : decode b_MO_plainly 215 = .ok (.invokevirtual 140, 3) := by decide +kernel
theorem d_MO_plainly_218 : decode b_MO_plainly 218 = .ok (.ifCond .eq 13, 3) := by decide +kernel
theorem d_MO_plainly_221 : decode b_MO_plainly 221 = .ok (.iload_n 2, 1) := by decide +kernel
theorem d_MO_plainly_222 : decode b_MO_plainly 222 = .ok (.bipush 96, 2) := by decide +kernel
theorem d_MO_plainly_224 : decode b_MO_plainly 224 = .ok (.if_icmp .le 7, 3) := by decide +kernel
theorem d_MO_plainly_227 : decode b_MO_plainly 227 = .ok (.iconst 1, 1) := by decide +kernel
theorem d_MO_plainly_228 : decode b_MO_plainly 228 = .ok (.goto 4, 3) := by decide +kernel
theorem d_MO_plainly_231 : decode b_MO_plainly 231 = .ok (.iconst 0, 1) := by decide +kernel
theorem d_MO_plainly_232 : decode b_MO_plainly 232 = .ok (.ireturn, 1) := by decide +kernel
theorem d_MO_plainly_233 : decode b_MO_plainly 233 = .ok (.aload_n 0, 1) := by decide +kernel
theorem d_MO_plainly_234 : decode b_MO_plainly 234 = .ok (.iload_n 2, 1) := by decide +kernel
theorem d_MO_plainly_235 : decode b_MO_plainly 235 = .ok (.invokevirtual 140, 3) := by decide +kernel
theorem d_MO_plainly_238 : decode b_MO_plainly 238 = .ok (.ifCond .eq 13, 3) := by decide +kernel
theorem d_MO_plainly_241 : decode b_MO_plainly 241 = .ok (.iload_n 2, 1) := by decide +kernel
theorem d_MO_plainly_242 : decode b_MO_plainly 242 = .ok (.bipush 96, 2) := by decide +kernel
theorem d_MO_plainly_244 : decode b_MO_plainly 244 = .ok (.if_icmp .ge 7, 3) := by decide +kernel
theorem d_MO_plainly_247 : decode b_MO_plainly 247 = .ok (.iconst 1, 1) := by decide +kernel
theorem d_MO_plainly_248 : decode b_MO_plainly 248 = .ok (.goto 4, 3) := by decide +kernel
theorem d_MO_plainly_251 : decode b_MO_plainly 251 = .ok (.iconst 0, 1) := by decide +kernel
theorem d_MO_plainly_252 : decode b_MO_plainly 252 = .ok (.ireturn, 1) := by decide +kernel
theorem d_MO_plainly_253 : decode b_MO_plainly 253 = .ok (.aload_n 0, 1) := by decide +kernel
theorem d_MO_plainly_254 : decode b_MO_plainly 254 = .ok (.iload_n 2, 1) := by decide +kernel
theorem d_MO_plainly_255 : decode b_MO_plainly 255 = .ok (.invokevirtual 140, 3) := by decide +kernel
theorem d_MO_plainly_258 : decode b_MO_plainly 258 = .ok (.ifCond .ne 11, 3) := by decide +kernel
theorem d_MO_plainly_261 : decode b_MO_plainly 261 = .ok (.aload_n 0, 1) := by decide +kernel
theorem d_MO_plainly_262 : decode b_MO_plainly 262 = .ok (.iload_n 2, 1) := by decide +kernel
theorem d_MO_plainly_263 : decode b_MO_plainly 263 = .ok (.invokevirtual 137, 3) := by decide +kernel
theorem d_MO_plainly_266 : decode b_MO_plainly 266 = .ok (.ifCond .eq 7, 3) := by decide +kernel
theorem d_MO_plainly_269 : decode b_MO_plainly 269 = .ok (.iconst 1, 1) := by decide +kernel
theorem d_MO_plainly_270 : decode b_MO_plainly 270 = .ok (.goto 4, 3) := by decide +kernel
theorem d_MO_plainly_273 : decode b_MO_plainly 273 = .ok (.iconst 0, 1) := by decide +kernel
theorem d_MO_plainly_274 : decode b_MO_plainly 274 = .ok (.ireturn, 1) := by decide +kernel
theorem d_MO_plainly_275 : decode b_MO_plainly 275 = .ok (.iload_n 2, 1) := by decide +kernel
theorem d_MO_plainly_276 : decode b_MO_plainly 276 = .ok (.bipush 9, 2) := by decide +kernel
theorem d_MO_plainly_278 : decode b_MO_plainly 278 = .ok (.if_icmp .eq 9, 3) := by decide +kernel
theorem d_MO_plainly_281 : decode b_MO_plainly 281 = .ok (.iload_n 2, 1) := by decide +kernel
theorem d_MO_plainly_282 : decode b_MO_plainly 282 = .ok (.bipush 32, 2) := by decide +kernel
theorem d_MO_plainly_284 : decode b_MO_plainly 284 = .ok (.if_icmp .ne 7, 3) := by decide +kernel
theorem d_MO_plainly_287 : decode b_MO_plainly 287 = .ok (.iconst 1, 1) := by decide +kernel
theorem d_MO_plainly_288 : decode b_MO_plainly 288 = .ok (.goto 4, 3) := by decide +kernel
theorem d_MO_plainly_291 : decode b_MO_plainly 291 = .ok (.iconst 0, 1) := by decide +kernel
theorem d_MO_plainly_292 : decode b_MO_plainly 292 = .ok (.ireturn, 1) := by decide +kernel
theorem d_MO_plainly_293 : decode b_MO_plainly 293 = .ok (.iload_n 2, 1) := by decide +kernel
theorem d_MO_plainly_294 : decode b_MO_plainly 294 = .ok (.bipush 32, 2) := by decide +kernel
theorem d_MO_plainly_296 : decode b_MO_plainly 296 = .ok (.if_icmp .lt 9, 3) := by decide +kernel
theorem d_MO_plainly_299 : decode b_MO_plainly 299 = .ok (.iload_n 2, 1) := by decide +kernel
theorem d_MO_plainly_300 : decode b_MO_plainly 300 = .ok (.bipush 127, 2) := by decide +kernel
theorem d_MO_plainly_302 : decode b_MO_plainly 302 = .ok (.if_icmp .ne 7, 3) := by decide +kernel
theorem d_MO_plainly_305 : decode b_MO_plainly 305 = .ok (.iconst 1, 1) := by decide +kernel
theorem d_MO_plainly_306 : decode b_MO_plainly 306 = .ok (.goto 4, 3) := by decide +kernel
theorem d_MO_plainly_309 : decode b_MO_plainly 309 = .ok (.iconst 0, 1) := by decide +kernel
theorem d_MO_plainly_310 : decode b_MO_plainly 310 = .ok (.ireturn, 1) := by decide +kernel
theorem d_MO_plainly_311 : decode b_MO_plainly 311 = .ok (.iload_n 3, 1) := by decide +kernel
theorem d_MO_plainly_312 : decode b_MO_plainly 312 = .ok (.ireturn, 1) := by decide +kernel
theorem d_MO_plainly_313 : decode b_MO_plainly 313 = .ok (.iload_n 3, 1) := by decide +kernel
theorem d_MO_plainly_314 : decode b_MO_plainly 314 = .ok (.ifCond .ne 9, 3) := by decide +kernel
theorem d_MO_plainly_317 : decode b_MO_plainly 317 = .ok (.iload_n 2, 1) := by decide +kernel
theorem d_MO_plainly_318 : decode b_MO_plainly 318 = .ok (.bipush 32, 2) := by decide +kernel
theorem d_MO_plainly_320 : decode b_MO_plainly 320 = .ok (.if_icmp .ne 7, 3) := by decide +kernel
theorem d_MO_plainly_323 : decode b_MO_plainly 323 = .ok (.iconst 1, 1) := by decide +kernel
theorem d_MO_plainly_324 : decode b_MO_plainly 324 = .ok (.goto 4, 3) := by decide +kernel
theorem d_MO_plainly_327 : decode b_MO_plainly 327 = .ok (.iconst 0, 1) := by decide +kernel
theorem d_MO_plainly_328 : decode b_MO_plainly 328 = .ok (.ireturn, 1) := by decide +kernel
theorem d_MO_plainly_329 : decode b_MO_plainly 329 = .ok (.iload_n 3, 1) := by decide +kernel
theorem d_MO_plainly_330 : decode b_MO_plainly 330 = .ok (.ifCond .eq 23, 3) := by decide +kernel
theorem d_MO_plainly_333 : decode b_MO_plainly 333 = .ok (.aload_n 0, 1) := by decide +kernel
theorem d_MO_plainly_334 : decode b_MO_plainly 334 = .ok (.iload_n 2, 1) := by decide +kernel
theorem d_MO_plainly_335 : decode b_MO_plainly 335 = .ok (.invokevirtual 140, 3) := by decide +kernel
theorem d_MO_plainly_338 : decode b_MO_plainly 338 = .ok (.ifCond .ne 15, 3) := by decide +kernel
theorem d_MO_plainly_341 : decode b_MO_plainly 341 = .ok (.aload_n 0, 1) := by decide +kernel
theorem d_MO_plainly_342 : decode b_MO_plainly 342 = .ok (.iload_n 2, 1) := by decide +kernel
theorem d_MO_plainly_343 : decode b_MO_plainly 343 = .ok (.invokevirtual 137, 3) := by decide +kernel
theorem d_MO_plainly_346 : decode b_MO_plainly 346 = .ok (.ifCond .ne 7, 3) := by decide +kernel
theorem d_MO_plainly_349 : decode b_MO_plainly 349 = .ok (.iconst 1, 1) := by decide +kernel
theorem d_MO_plainly_350 : decode b_MO_plainly 350 = .ok (.goto 4, 3) := by decide +kernel
theorem d_MO_plainly_353 : decode b_MO_plainly 353 = .ok (.iconst 0, 1) := by decide +kernel
theorem d_MO_plainly_354 : decode b_MO_plainly 354 = .ok (.ireturn, 1) := by decide +kernel
theorem d_MO_plainly_355 : decode b_MO_plainly 355 = .ok (.aload_n 0, 1) := by decide +kernel
theorem d_MO_plainly_356 : decode b_MO_plainly 356 = .ok (.iload_n 2, 1) := by decide +kernel
theorem d_MO_plainly_357 : decode b_MO_plainly 357 = .ok (.invokevirtual 137, 3) := by decide +kernel
theorem d_MO_plainly_360 : decode b_MO_plainly 360 = .ok (.ifCond .ne 27, 3) := by decide +kernel
theorem d_MO_plainly_363 : decode b_MO_plainly 363 = .ok (.iload_n 2, 1) := by decide +kernel
theorem d_MO_plainly_364 : decode b_MO_plainly 364 = .ok (.bipush 65, 2) := by decide +kernel
theorem d_MO_plainly_366 : decode b_MO_plainly 366 = .ok (.if_icmp .lt 9, 3) := by decide +kernel
theorem d_MO_plainly_369 : decode b_MO_plainly 369 = .ok (.iload_n 2, 1) := by decide +kernel
theorem d_MO_plainly_370 : decode b_MO_plainly 370 = .ok (.bipush 70, 2) := by decide +kernel
theorem d_MO_plainly_372 : decode b_MO_plainly 372 = .ok (.if_icmp .le 15, 3) := by decide +kernel
theorem d_MO_plainly_375 : decode b_MO_plainly 375 = .ok (.iload_n 2, 1) := by decide +kernel
theorem d_MO_plainly_376 : decode b_MO_plainly 376 = .ok (.bipush 97, 2) := by decide +kernel
theorem d_MO_plainly_378 : decode b_MO_plainly 378 = .ok (.if_icmp .lt 13, 3) := by decide +kernel
theorem d_MO_plainly_381 : decode b_MO_plainly 381 = .ok (.iload_n 2, 1) := by decide +kernel
theorem d_MO_plainly_382 : decode b_MO_plainly 382 = .ok (.bipush 102, 2) := by decide +kernel
theorem d_MO_plainly_384 : decode b_MO_plainly 384 = .ok (.if_icmp .gt 7, 3) := by decide +kernel
theorem d_MO_plainly_387 : decode b_MO_plainly 387 = .ok (.iconst 1, 1) := by decide +kernel
theorem d_MO_plainly_388 : decode b_MO_plainly 388 = .ok (.goto 4, 3) := by decide +kernel
theorem d_MO_plainly_391 : decode b_MO_plainly 391 = .ok (.iconst 0, 1) := by decide +kernel
theorem d_MO_plainly_392 : decode b_MO_plainly 392 = .ok (.ireturn, 1) := by decide +kernel
theorem d_MO_plainly_393 : decode b_MO_plainly 393 = .ok (.iload_n 2, 1) := by decide +kernel
theorem d_MO_plainly_394 : decode b_MO_plainly 394 = .ok (.sipush 128, 3) := by decide +kernel
theorem d_MO_plainly_397 : decode b_MO_plainly 397 = .ok (.if_icmp .ge 7, 3) := by decide +kernel
theorem d_MO_plainly_400 : decode b_MO_plainly 400 = .ok (.iconst 1, 1) := by decide +kernel
theorem d_MO_plainly_401 : decode b_MO_plainly 401 = .ok (.goto 4, 3) := by decide +kernel
theorem d_MO_plainly_404 : decode b_MO_plainly 404 = .ok (.iconst 0, 1) := by decide +kernel
theorem d_MO_plainly_405 : decode b_MO_plainly 405 = .ok (.ireturn, 1) := by decide +kernel
theorem d_MO_widely_0 : decode b_MO_widely 0 = .ok (.aload_n 0, 1) := by decide +kernel
theorem d_MO_widely_1 : decode b_MO_widely 1 = .ok (.iload_n 2, 1) := by decide +kernel
theorem d_MO_widely_2 : decode b_MO_widely 2 = .ok (.invokevirtual 75, 3) := by decide +kernel
theorem d_MO_widely_5 : decode b_MO_widely 5 = .ok (.istore_n 3, 1) := by decide +kernel
theorem d_MO_widely_6 : decode b_MO_widely 6 = .ok (.aload_n 0, 1) := by decide +kernel
theorem d_MO_widely_7 : decode b_MO_widely 7 = .ok (.bipush 6, 2) := by decide +kernel
theorem d_MO_widely_9 : decode b_MO_widely 9 = .ok (.iload_n 3, 1) := by decide +kernel
theorem d_MO_widely_10 : decode b_MO_widely 10 = .ok (.invokevirtual 127, 3) := by decide +kernel
theorem d_MO_widely_13 : decode b_MO_widely 13 = .ok (.ifCond .ne 16, 3) := by decide +kernel
theorem d_MO_widely_16 : decode b_MO_widely 16 = .ok (.iload_n 3, 1) := by decide +kernel
theorem d_MO_widely_17 : decode b_MO_widely 17 = .ok (.iconst 1, 1) := by decide +kernel
theorem d_MO_widely_18 : decode b_MO_widely 18 = .ok (.if_icmp .eq 11, 3) := by decide +kernel
theorem d_MO_widely_21 : decode b_MO_widely 21 = .ok (.iload_n 3, 1) := by decide +kernel
theorem d_MO_widely_22 : decode b_MO_widely 22 = .ok (.ifCond .eq 7, 3) := by decide +kernel
theorem d_MO_widely_25 : decode b_MO_widely 25 = .ok (.iconst 1, 1) := by decide +kernel
theorem d_MO_widely_26 : decode b_MO_widely 26 = .ok (.goto 4, 3) := by decide +kernel
theorem d_MO_widely_29 : decode b_MO_widely 29 = .ok (.iconst 0, 1) := by decide +kernel
theorem d_MO_widely_30 : decode b_MO_widely 30 = .ok (.istore 4, 2) := by decide +kernel
theorem d_MO_widely_32 : decode b_MO_widely 32 = .ok (.iload_n 1, 1) := by decide +kernel
theorem d_MO_widely_33 : decode b_MO_widely 33 = .ok (.tableswitch 217 0 16 #[83, 95, 103, 217, 217, 117, 124, 135, 83, 147, 95, 103, 111, 155, 166, 169, 186], 83) := by decide +kernel
theorem d_MO_widely_116 : decode b_MO_widely 116 = .ok (.iload_n 3, 1) := by decide +kernel
theorem d_MO_widely_117 : decode b_MO_widely 117 = .ok (.bipush 8, 2) := by decide +kernel
theorem d_MO_widely_119 : decode b_MO_widely 119 = .ok (.if_icmp .ne 7, 3) := by decide +kernel
theorem d_MO_widely_122 : decode b_MO_widely 122 = .ok (.iconst 1, 1) := by decide +kernel
theorem d_MO_widely_123 : decode b_MO_widely 123 = .ok (.goto 4, 3) := by decide +kernel
theorem d_MO_widely_126 : decode b_MO_widely 126 = .ok (.iconst 0, 1) := by decide +kernel
theorem d_MO_widely_127 : decode b_MO_widely 127 = .ok (.ireturn, 1) := by decide +kernel
theorem d_MO_widely_128 : decode b_MO_widely 128 = .ok (.aload_n 0, 1) := by decide +kernel
theorem d_MO_widely_129 : decode b_MO_widely 129 = .ok (.bipush 47, 2) := by decide +kernel
theorem d_MO_widely_131 : decode b_MO_widely 131 = .ok (.iload_n 2, 1) := by decide +kernel
theorem d_MO_widely_132 : decode b_MO_widely 132 = .ok (.invokevirtual 134, 3) := by decide +kernel
theorem d_MO_widely_135 : decode b_MO_widely 135 = .ok (.ireturn, 1) := by decide +kernel
theorem d_MO_widely_136 : decode b_MO_widely 136 = .ok (.aload_n 0, 1) := by decide +kernel
theorem d_MO_widely_137 : decode b_MO_widely 137 = .ok (.bipush 48, 2) := by decide +kernel
theorem d_MO_widely_139 : decode b_MO_widely 139 = .ok (.iload_n 2, 1) := by decide +kernel
theorem d_MO_widely_140 : decode b_MO_widely 140 = .ok (.invokevirtual 134, 3) := by decide +kernel
theorem d_MO_widely_143 : decode b_MO_widely 143 = .ok (.ireturn, 1) := by decide +kernel
theorem d_MO_widely_144 : decode b_MO_widely 144 = .ok (.aload_n 0, 1) := by decide +kernel
theorem d_MO_widely_145 : decode b_MO_widely 145 = .ok (.iload_n 2, 1) := by decide +kernel
theorem d_MO_widely_146 : decode b_MO_widely 146 = .ok (.invokevirtual 143, 3) := by decide +kernel
theorem d_MO_widely_149 : decode b_MO_widely 149 = .ok (.ireturn, 1) := by decide +kernel
theorem d_MO_widely_150 : decode b_MO_widely 150 = .ok (.aload_n 0, 1) := by decide +kernel
theorem d_MO_widely_151 : decode b_MO_widely 151 = .ok (.iconst 1, 1) := by decide +kernel
theorem d_MO_widely_152 : decode b_MO_widely 152 = .ok (.iload_n 3, 1) := by decide +kernel
theorem d_MO_widely_153 : decode b_MO_widely 153 = .ok (.invokevirtual 127, 3) := by decide +kernel
theorem d_MO_widely_156 : decode b_MO_widely 156 = .ok (.ireturn, 1) := by decide +kernel
theorem d_MO_widely_157 : decode b_MO_widely 157 = .ok (.iload_n 3, 1) := by decide +kernel
theorem d_MO_widely_158 : decode b_MO_widely 158 = .ok (.iconst 4, 1) := by decide +kernel
theorem d_MO_widely_159 : decode b_MO_widely 159 = .ok (.if_icmp .ne 7, 3) := by decide +kernel
theorem d_MO_widely_162 : decode b_MO_widely 162 = .ok (.iconst 1, 1) := by decide +kernel
theorem d_MO_widely_163 : decode b_MO_widely 163 = .ok (.goto 4, 3) := by decide +kernel
theorem d_MO_widely_166 : decode b_MO_widely 166 = .ok (.iconst 0, 1) := by decide +kernel
theorem d_MO_widely_167 : decode b_MO_widely 167 = .ok (.ireturn, 1) := by decide +kernel
theorem d_MO_widely_168 : decode b_MO_widely 168 = .ok (.iload_n 3, 1) := by decide +kernel
theorem d_MO_widely_169 : decode b_MO_widely 169 = .ok (.bipush 6, 2) := by decide +kernel
theorem d_MO_widely_171 : decode b_MO_widely 171 = .ok (.if_icmp .ne 7, 3) := by decide +kernel
theorem d_MO_widely_174 : decode b_MO_widely 174 = .ok (.iconst 1, 1) := by decide +kernel
theorem d_MO_widely_175 : decode b_MO_widely 175 = .ok (.goto 4, 3) := by decide +kernel
theorem d_MO_widely_178 : decode b_MO_widely 178 = .ok (.iconst 0, 1) := by decide +kernel
theorem d_MO_widely_179 : decode b_MO_widely 179 = .ok (.ireturn, 1) := by decide +kernel
theorem d_MO_widely_180 : decode b_MO_widely 180 = .ok (.aload_n 0, 1) := by decide +kernel
theorem d_MO_widely_181 : decode b_MO_widely 181 = .ok (.bipush 46, 2) := by decide +kernel
theorem d_MO_widely_183 : decode b_MO_widely 183 = .ok (.iload_n 2, 1) := by decide +kernel
theorem d_MO_widely_184 : decode b_MO_widely 184 = .ok (.invokevirtual 134, 3) := by decide +kernel
theorem d_MO_widely_187 : decode b_MO_widely 187 = .ok (.ireturn, 1) := by decide +kernel
theorem d_MO_widely_188 : decode b_MO_widely 188 = .ok (.iload_n 3, 1) := by decide +kernel
theorem d_MO_widely_189 : decode b_MO_widely 189 = .ok (.iconst 1, 1) := by decide +kernel
theorem d_MO_widely_190 : decode b_MO_widely 190 = .ok (.if_icmp .ne 7, 3) := by decide +kernel
theorem d_MO_widely_193 : decode b_MO_widely 193 = .ok (.iconst 1, 1) := by decide +kernel
theorem d_MO_widely_194 : decode b_MO_widely 194 = .ok (.goto 4, 3) := by decide +kernel
theorem d_MO_widely_197 : decode b_MO_widely 197 = .ok (.iconst 0, 1) := by decide +kernel
theorem d_MO_widely_198 : decode b_MO_widely 198 = .ok (.ireturn, 1) := by decide +kernel
theorem d_MO_widely_199 : decode b_MO_widely 199 = .ok (.iload 4, 2) := by decide +kernel
theorem d_MO_widely_201 : decode b_MO_widely 201 = .ok (.ireturn, 1) := by decide +kernel
theorem d_MO_widely_202 : decode b_MO_widely 202 = .ok (.iload 4, 2) := by decide +kernel
theorem d_MO_widely_204 : decode b_MO_widely 204 = .ok (.ifCond .ne 9, 3) := by decide +kernel
theorem d_MO_widely_207 : decode b_MO_widely 207 = .ok (.iload_n 3, 1) := by decide +kernel
theorem d_MO_widely_208 : decode b_MO_widely 208 = .ok (.bipush 24, 2) := by decide +kernel
theorem d_MO_widely_210 : decode b_MO_widely 210 = .ok (.if_icmp .ne 7, 3) := by decide +kernel
theorem d_MO_widely_213 : decode b_MO_widely 213 = .ok (.iconst 1, 1) := by decide +kernel
theorem d_MO_widely_214 : decode b_MO_widely 214 = .ok (.goto 4, 3) := by decide +kernel
theorem d_MO_widely_217 : decode b_MO_widely 217 = .ok (.iconst 0, 1) := by decide +kernel
theorem d_MO_widely_218 : decode b_MO_widely 218 = .ok (.ireturn, 1) := by decide +kernel
theorem d_MO_widely_219 : decode b_MO_widely 219 = .ok (.aload_n 0, 1) := by decide +kernel
theorem d_MO_widely_220 : decode b_MO_widely 220 = .ok (.iconst 4, 1) := by decide +kernel
theorem d_MO_widely_221 : decode b_MO_widely 221 = .ok (.iload_n 3, 1) := by decide +kernel
theorem d_MO_widely_222 : decode b_MO_widely 222 = .ok (.invokevirtual 127, 3) := by decide +kernel
theorem d_MO_widely_225 : decode b_MO_widely 225 = .ok (.ifCond .ne 19, 3) := by decide +kernel
theorem d_MO_widely_228 : decode b_MO_widely 228 = .ok (.aload_n 0, 1) := by decide +kernel
theorem d_MO_widely_229 : decode b_MO_widely 229 = .ok (.iconst 5, 1) := by decide +kernel
theorem d_MO_widely_230 : decode b_MO_widely 230 = .ok (.iload_n 3, 1) := by decide +kernel
theorem d_MO_widely_231 : decode b_MO_widely 231 = .ok (.invokevirtual 127, 3) := by decide +kernel
theorem d_MO_widely_234 : decode b_MO_widely 234 = .ok (.ifCond .eq 14, 3) := by decide +kernel
theorem d_MO_widely_237 : decode b_MO_widely 237 = .ok (.iload_n 2, 1) := by decide +kernel
theorem d_MO_widely_238 : decode b_MO_widely 238 = .ok (.sipush 128, 3) := by decide +kernel
theorem d_MO_widely_241 : decode b_MO_widely 241 = .ok (.if_icmp .ge 7, 3) := by decide +kernel
theorem d_MO_widely_244 : decode b_MO_widely 244 = .ok (.iconst 1, 1) := by decide +kernel
theorem d_MO_widely_245 : decode b_MO_widely 245 = .ok (.goto 4, 3) := by decide +kernel
theorem d_MO_widely_248 : decode b_MO_widely 248 = .ok (.iconst 0, 1) := by decide +kernel
theorem d_MO_widely_249 : decode b_MO_widely 249 = .ok (.ireturn, 1) := by decide +kernel
theorem d_MO_widely_250 : decode b_MO_widely 250 = .ok (.aload_n 0, 1) := by decide +kernel
theorem d_MO_widely_251 : decode b_MO_widely 251 = .ok (.iload_n 1, 1) := by decide +kernel
theorem d_MO_widely_252 : decode b_MO_widely 252 = .ok (.iload_n 2, 1) := by decide +kernel
theorem d_MO_widely_253 : decode b_MO_widely 253 = .ok (.invokevirtual 146, 3) := by decide +kernel
theorem d_MO_widely_256 : decode b_MO_widely 256 = .ok (.ireturn, 1) := by decide +kernel
theorem d_MO_names_0 : decode b_MO_names 0 = .ok (.aload_n 0, 1) := by decide +kernel
theorem d_MO_names_1 : decode b_MO_names 1 = .ok (.getfield 45, 3) := by decide +kernel
theorem d_MO_names_4 : decode b_MO_names 4 = .ok (.ifCond .eq 12, 3) := by decide +kernel
theorem d_MO_names_7 : decode b_MO_names 7 = .ok (.aload_n 0, 1) := by decide +kernel
theorem d_MO_names_8 : decode b_MO_names 8 = .ok (.iload_n 1, 1) := by decide +kernel
theorem d_MO_names_9 : decode b_MO_names 9 = .ok (.iload_n 2, 1) := by decide +kernel
theorem d_MO_names_10 : decode b_MO_names 10 = .ok (.invokevirtual 149, 3) := by decide +kernel
theorem d_MO_names_13 : decode b_MO_names 13 = .ok (.goto 9, 3) := by decide +kernel
theorem d_MO_names_16 : decode b_MO_names 16 = .ok (.aload_n 0, 1) := by decide +kernel
theorem d_MO_names_17 : decode b_MO_names 17 = .ok (.iload_n 1, 1) := by decide +kernel
theorem d_MO_names_18 : decode b_MO_names 18 = .ok (.iload_n 2, 1) := by decide +kernel
theorem d_MO_names_19 : decode b_MO_names 19 = .ok (.invokevirtual 146, 3) := by decide +kernel
theorem d_MO_names_22 : decode b_MO_names 22 = .ok (.ireturn, 1) := by decide +kernel
theorem d_MO_named_0 : decode b_MO_named 0 = .ok (.aload_n 0, 1) := by decide +kernel
theorem d_MO_named_1 : decode b_MO_named 1 = .ok (.iload_n 1, 1) := by decide +kernel
theorem d_MO_named_2 : decode b_MO_named 2 = .ok (.invokevirtual 117, 3) := by decide +kernel
theorem d_MO_named_5 : decode b_MO_named 5 = .ok (.ifCond .ne 13, 3) := by decide +kernel
theorem d_MO_named_8 : decode b_MO_named 8 = .ok (.iload_n 2, 1) := by decide +kernel
theorem d_MO_named_9 : decode b_MO_named 9 = .ok (.ifCond .lt 9, 3) := by decide +kernel
theorem d_MO_named_12 : decode b_MO_named 12 = .ok (.iload_n 2, 1) := by decide +kernel
theorem d_MO_named_13 : decode b_MO_named 13 = .ok (.bipush 18, 2) := by decide +kernel
theorem d_MO_named_15 : decode b_MO_named 15 = .ok (.if_icmp .le 6, 3) := by decide +kernel
theorem d_MO_named_18 : decode b_MO_named 18 = .ok (.bipush (-2), 2) := by decide +kernel
theorem d_MO_named_20 : decode b_MO_named 20 = .ok (.ireturn, 1) := by decide +kernel
theorem d_MO_named_21 : decode b_MO_named 21 = .ok (.iload 4, 2) := by decide +kernel
theorem d_MO_named_23 : decode b_MO_named 23 = .ok (.ifCond .eq 19, 3) := by decide +kernel
theorem d_MO_named_26 : decode b_MO_named 26 = .ok (.iload_n 2, 1) := by decide +kernel
theorem d_MO_named_27 : decode b_MO_named 27 = .ok (.bipush 6, 2) := by decide +kernel
theorem d_MO_named_29 : decode b_MO_named 29 = .ok (.if_icmp .eq 9, 3) := by decide +kernel
theorem d_MO_named_32 : decode b_MO_named 32 = .ok (.iload_n 2, 1) := by decide +kernel
theorem d_MO_named_33 : decode b_MO_named 33 = .ok (.bipush 7, 2) := by decide +kernel
theorem d_MO_named_35 : decode b_MO_named 35 = .ok (.if_icmp .ne 7, 3) := by decide +kernel
theorem d_MO_named_38 : decode b_MO_named 38 = .ok (.iconst 5, 1) := by decide +kernel
theorem d_MO_named_39 : decode b_MO_named 39 = .ok (.goto 4, 3) := by decide +kernel
theorem d_MO_named_42 : decode b_MO_named 42 = .ok (.iload_n 2, 1) := by decide +kernel
theorem d_MO_named_43 : decode b_MO_named 43 = .ok (.istore 5, 2) := by decide +kernel
theorem d_MO_named_45 : decode b_MO_named 45 = .ok (.aload_n 0, 1) := by decide +kernel
theorem d_MO_named_46 : decode b_MO_named 46 = .ok (.getfield 49, 3) := by decide +kernel
theorem d_MO_named_49 : decode b_MO_named 49 = .ok (.sipush 12544, 3) := by decide +kernel
theorem d_MO_named_52 : decode b_MO_named 52 = .ok (.if_icmp .ge 12, 3) := by decide +kernel
theorem d_MO_named_55 : decode b_MO_named 55 = .ok (.aload_n 0, 1) := by decide +kernel
theorem d_MO_named_56 : decode b_MO_named 56 = .ok (.getfield 49, 3) := by decide +kernel
theorem d_MO_named_59 : decode b_MO_named 59 = .ok (.iconst 1, 1) := by decide +kernel
theorem d_MO_named_60 : decode b_MO_named 60 = .ok (.iadd, 1) := by decide +kernel
theorem d_MO_named_61 : decode b_MO_named 61 = .ok (.goto 6, 3) := by decide +kernel
theorem d_MO_named_64 : decode b_MO_named 64 = .ok (.sipush 12544, 3) := by decide +kernel
theorem d_MO_named_67 : decode b_MO_named 67 = .ok (.istore 6, 2) := by decide +kernel
theorem d_MO_named_69 : decode b_MO_named 69 = .ok (.iconst 0, 1) := by decide +kernel
theorem d_MO_named_70 : decode b_MO_named 70 = .ok (.istore 7, 2) := by decide +kernel
theorem d_MO_named_72 : decode b_MO_named 72 = .ok (.iload 7, 2) := by decide +kernel
theorem d_MO_named_74 : decode b_MO_named 74 = .ok (.iload 6, 2) := by decide +kernel
theorem d_MO_named_76 : decode b_MO_named 76 = .ok (.if_icmp .ge 28, 3) := by decide +kernel
theorem d_MO_named_79 : decode b_MO_named 79 = .ok (.aload_n 0, 1) := by decide +kernel
theorem d_MO_named_80 : decode b_MO_named 80 = .ok (.iload 5, 2) := by decide +kernel
theorem d_MO_named_82 : decode b_MO_named 82 = .ok (.iload 7, 2) := by decide +kernel
theorem d_MO_named_84 : decode b_MO_named 84 = .ok (.invokevirtual 152, 3) := by decide +kernel
theorem d_MO_named_87 : decode b_MO_named 87 = .ok (.iload_n 3, 1) := by decide +kernel
theorem d_MO_named_88 : decode b_MO_named 88 = .ok (.if_icmp .eq 10, 3) := by decide +kernel
theorem d_MO_named_91 : decode b_MO_named 91 = .ok (.aload_n 0, 1) := by decide +kernel
theorem d_MO_named_92 : decode b_MO_named 92 = .ok (.iload_n 1, 1) := by decide +kernel
theorem d_MO_named_93 : decode b_MO_named 93 = .ok (.iload 7, 2) := by decide +kernel
theorem d_MO_named_95 : decode b_MO_named 95 = .ok (.invokevirtual 101, 3) := by decide +kernel
theorem d_MO_named_98 : decode b_MO_named 98 = .ok (.iinc 7 1, 3) := by decide +kernel
theorem d_MO_named_101 : decode b_MO_named 101 = .ok (.goto (-29), 3) := by decide +kernel
theorem d_MO_named_104 : decode b_MO_named 104 = .ok (.aload_n 0, 1) := by decide +kernel
theorem d_MO_named_105 : decode b_MO_named 105 = .ok (.getfield 41, 3) := by decide +kernel
theorem d_MO_named_108 : decode b_MO_named 108 = .ok (.ifCond .ne 9, 3) := by decide +kernel
theorem d_MO_named_111 : decode b_MO_named 111 = .ok (.aload_n 0, 1) := by decide +kernel
theorem d_MO_named_112 : decode b_MO_named 112 = .ok (.iload_n 1, 1) := by decide +kernel
theorem d_MO_named_113 : decode b_MO_named 113 = .ok (.invokevirtual 124, 3) := by decide +kernel
theorem d_MO_named_116 : decode b_MO_named 116 = .ok (.ireturn, 1) := by decide +kernel
theorem d_MO_named_117 : decode b_MO_named 117 = .ok (.iconst 0, 1) := by decide +kernel
theorem d_MO_named_118 : decode b_MO_named 118 = .ok (.istore 7, 2) := by decide +kernel
theorem d_MO_named_120 : decode b_MO_named 120 = .ok (.iload 7, 2) := by decide +kernel
theorem d_MO_named_122 : decode b_MO_named 122 = .ok (.bipush 13, 2) := by decide +kernel
theorem d_MO_named_124 : decode b_MO_named 124 = .ok (.if_icmp .ge 49, 3) := by decide +kernel
theorem d_MO_named_127 : decode b_MO_named 127 = .ok (.aload_n 0, 1) := by decide +kernel
theorem d_MO_named_128 : decode b_MO_named 128 = .ok (.iload 5, 2) := by decide +kernel
theorem d_MO_named_130 : decode b_MO_named 130 = .ok (.aload_n 0, 1) := by decide +kernel
theorem d_MO_named_131 : decode b_MO_named 131 = .ok (.getfield 38, 3) := by decide +kernel
theorem d_MO_named_134 : decode b_MO_named 134 = .ok (.iload 7, 2) := by decide +kernel
theorem d_MO_named_136 : decode b_MO_named 136 = .ok (.iaload, 1) := by decide +kernel
theorem d_MO_named_137 : decode b_MO_named 137 = .ok (.invokevirtual 152, 3) := by decide +kernel
theorem d_MO_named_140 : decode b_MO_named 140 = .ok (.iload_n 3, 1) := by decide +kernel
theorem d_MO_named_141 : decode b_MO_named 141 = .ok (.if_icmp .eq 26, 3) := by decide +kernel
theorem d_MO_named_144 : decode b_MO_named 144 = .ok (.aload_n 0, 1) := by decide +kernel
theorem d_MO_named_145 : decode b_MO_named 145 = .ok (.iload_n 1, 1) := by decide +kernel
theorem d_MO_named_146 : decode b_MO_named 146 = .ok (.aload_n 0, 1) := by decide +kernel
theorem d_MO_named_147 : decode b_MO_named 147 = .ok (.getfield 38, 3) := by decide +kernel
theorem d_MO_named_150 : decode b_MO_named 150 = .ok (.iload 7, 2) := by decide +kernel
theorem d_MO_named_152 : decode b_MO_named 152 = .ok (.iaload, 1) := by decide +kernel
theorem d_MO_named_153 : decode b_MO_named 153 = .ok (.aload_n 0, 1) := by decide +kernel
theorem d_MO_named_154 : decode b_MO_named 154 = .ok (.getfield 38, 3) := by decide +kernel
theorem d_MO_named_157 : decode b_MO_named 157 = .ok (.iload 7, 2) := by decide +kernel
theorem d_MO_named_159 : decode b_MO_named 159 = .ok (.iconst 1, 1) := by decide +kernel
theorem d_MO_named_160 : decode b_MO_named 160 = .ok (.iadd, 1) := by decide +kernel
theorem d_MO_named_161 : decode b_MO_named 161 = .ok (.iaload, 1) := by decide +kernel
theorem d_MO_named_162 : decode b_MO_named 162 = .ok (.iconst 1, 1) := by decide +kernel
theorem d_MO_named_163 : decode b_MO_named 163 = .ok (.isub, 1) := by decide +kernel
theorem d_MO_named_164 : decode b_MO_named 164 = .ok (.invokevirtual 121, 3) := by decide +kernel
theorem d_MO_named_167 : decode b_MO_named 167 = .ok (.iinc 7 1, 3) := by decide +kernel
theorem d_MO_named_170 : decode b_MO_named 170 = .ok (.goto (-50), 3) := by decide +kernel
theorem d_MO_named_173 : decode b_MO_named 173 = .ok (.aload_n 0, 1) := by decide +kernel
theorem d_MO_named_174 : decode b_MO_named 174 = .ok (.iload_n 1, 1) := by decide +kernel
theorem d_MO_named_175 : decode b_MO_named 175 = .ok (.invokevirtual 124, 3) := by decide +kernel
theorem d_MO_named_178 : decode b_MO_named 178 = .ok (.ireturn, 1) := by decide +kernel
theorem d_MO_count_0 : decode b_MO_count 0 = .ok (.iconst 0, 1) := by decide +kernel
theorem d_MO_count_1 : decode b_MO_count 1 = .ok (.istore_n 2, 1) := by decide +kernel
theorem d_MO_count_2 : decode b_MO_count 2 = .ok (.iconst 0, 1) := by decide +kernel
theorem d_MO_count_3 : decode b_MO_count 3 = .ok (.istore_n 3, 1) := by decide +kernel
theorem d_MO_count_4 : decode b_MO_count 4 = .ok (.iload_n 3, 1) := by decide +kernel
theorem d_MO_count_5 : decode b_MO_count 5 = .ok (.aload_n 0, 1) := by decide +kernel
theorem d_MO_count_6 : decode b_MO_count 6 = .ok (.getfield 52, 3) := by decide +kernel
theorem d_MO_count_9 : decode b_MO_count 9 = .ok (.if_icmp .ge 28, 3) := by decide +kernel
theorem d_MO_count_12 : decode b_MO_count 12 = .ok (.iload_n 2, 1) := by decide +kernel
theorem d_MO_count_13 : decode b_MO_count 13 = .ok (.aload_n 0, 1) := by decide +kernel
theorem d_MO_count_14 : decode b_MO_count 14 = .ok (.aload_n 0, 1) := by decide +kernel
theorem d_MO_count_15 : decode b_MO_count 15 = .ok (.getfield 8, 3) := by decide +kernel
theorem d_MO_count_18 : decode b_MO_count 18 = .ok (.iload_n 1, 1) := by decide +kernel
theorem d_MO_count_19 : decode b_MO_count 19 = .ok (.sipush 17408, 3) := by decide +kernel
theorem d_MO_count_22 : decode b_MO_count 22 = .ok (.imul, 1) := by decide +kernel
theorem d_MO_count_23 : decode b_MO_count 23 = .ok (.iload_n 3, 1) := by decide +kernel
theorem d_MO_count_24 : decode b_MO_count 24 = .ok (.iadd, 1) := by decide +kernel
theorem d_MO_count_25 : decode b_MO_count 25 = .ok (.laload, 1) := by decide +kernel
theorem d_MO_count_26 : decode b_MO_count 26 = .ok (.invokevirtual 113, 3) := by decide +kernel
theorem d_MO_count_29 : decode b_MO_count 29 = .ok (.iadd, 1) := by decide +kernel
theorem d_MO_count_30 : decode b_MO_count 30 = .ok (.istore_n 2, 1) := by decide +kernel
theorem d_MO_count_31 : decode b_MO_count 31 = .ok (.iinc 3 1, 3) := by decide +kernel
theorem d_MO_count_34 : decode b_MO_count 34 = .ok (.goto (-30), 3) := by decide +kernel
theorem d_MO_count_37 : decode b_MO_count 37 = .ok (.iload_n 2, 1) := by decide +kernel
theorem d_MO_count_38 : decode b_MO_count 38 = .ok (.ireturn, 1) := by decide +kernel
theorem d_MO_close_0 : decode b_MO_close 0 = .ok (.aload_n 0, 1) := by decide +kernel
theorem d_MO_close_1 : decode b_MO_close 1 = .ok (.iload_n 1, 1) := by decide +kernel
theorem d_MO_close_2 : decode b_MO_close 2 = .ok (.invokevirtual 117, 3) := by decide +kernel
theorem d_MO_close_5 : decode b_MO_close 5 = .ok (.ifCond .eq 6, 3) := by decide +kernel
theorem d_MO_close_8 : decode b_MO_close 8 = .ok (.bipush (-2), 2) := by decide +kernel
theorem d_MO_close_10 : decode b_MO_close 10 = .ok (.ireturn, 1) := by decide +kernel
theorem d_MO_close_11 : decode b_MO_close 11 = .ok (.aload_n 0, 1) := by decide +kernel
theorem d_MO_close_12 : decode b_MO_close 12 = .ok (.iload_n 1, 1) := by decide +kernel
theorem d_MO_close_13 : decode b_MO_close 13 = .ok (.invokevirtual 155, 3) := by decide +kernel
theorem d_MO_close_16 : decode b_MO_close 16 = .ok (.istore_n 2, 1) := by decide +kernel
theorem d_MO_close_17 : decode b_MO_close 17 = .ok (.aload_n 0, 1) := by decide +kernel
theorem d_MO_close_18 : decode b_MO_close 18 = .ok (.getfield 49, 3) := by decide +kernel
theorem d_MO_close_21 : decode b_MO_close 21 = .ok (.sipush 8704, 3) := by decide +kernel
theorem d_MO_close_24 : decode b_MO_close 24 = .ok (.if_icmp .ge 10, 3) := by decide +kernel
theorem d_MO_close_27 : decode b_MO_close 27 = .ok (.aload_n 0, 1) := by decide +kernel
theorem d_MO_close_28 : decode b_MO_close 28 = .ok (.getfield 49, 3) := by decide +kernel
theorem d_MO_close_31 : decode b_MO_close 31 = .ok (.goto 6, 3) := by decide +kernel
theorem d_MO_close_34 : decode b_MO_close 34 = .ok (.sipush 8704, 3) := by decide +kernel
theorem d_MO_close_37 : decode b_MO_close 37 = .ok (.istore_n 3, 1) := by decide +kernel
theorem d_MO_close_38 : decode b_MO_close 38 = .ok (.iconst 0, 1) := by decide +kernel
theorem d_MO_close_39 : decode b_MO_close 39 = .ok (.istore 4, 2) := by decide +kernel
theorem d_MO_close_41 : decode b_MO_close 41 = .ok (.iload 4, 2) := by decide +kernel
theorem d_MO_close_43 : decode b_MO_close 43 = .ok (.iload_n 3, 1) := by decide +kernel
theorem d_MO_close_44 : decode b_MO_close 44 = .ok (.if_icmp .gt 58, 3) := by decide +kernel
theorem d_MO_close_47 : decode b_MO_close 47 = .ok (.aload_n 0, 1) := by decide +kernel
theorem d_MO_close_48 : decode b_MO_close 48 = .ok (.iload_n 1, 1) := by decide +kernel
theorem d_MO_close_49 : decode b_MO_close 49 = .ok (.iload 4, 2) := by decide +kernel
theorem d_MO_close_51 : decode b_MO_close 51 = .ok (.invokevirtual 158, 3) := by decide +kernel
theorem d_MO_close_54 : decode b_MO_close 54 = .ok (.ifCond .ne 6, 3) := by decide +kernel
theorem d_MO_close_57 : decode b_MO_close 57 = .ok (.goto 39, 3) := by decide +kernel
theorem d_MO_close_60 : decode b_MO_close 60 = .ok (.aload_n 0, 1) := by decide +kernel
theorem d_MO_close_61 : decode b_MO_close 61 = .ok (.iload 4, 2) := by decide +kernel
theorem d_MO_close_63 : decode b_MO_close 63 = .ok (.invokevirtual 96, 3) := by decide +kernel
theorem d_MO_close_66 : decode b_MO_close 66 = .ok (.iconst 0, 1) := by decide +kernel
theorem d_MO_close_67 : decode b_MO_close 67 = .ok (.istore 5, 2) := by decide +kernel
theorem d_MO_close_69 : decode b_MO_close 69 = .ok (.iload 5, 2) := by decide +kernel
theorem d_MO_close_71 : decode b_MO_close 71 = .ok (.aload_n 0, 1) := by decide +kernel
theorem d_MO_close_72 : decode b_MO_close 72 = .ok (.getfield 22, 3) := by decide +kernel
theorem d_MO_close_75 : decode b_MO_close 75 = .ok (.if_icmp .ge 21, 3) := by decide +kernel
theorem d_MO_close_78 : decode b_MO_close 78 = .ok (.aload_n 0, 1) := by decide +kernel
theorem d_MO_close_79 : decode b_MO_close 79 = .ok (.iload_n 1, 1) := by decide +kernel
theorem d_MO_close_80 : decode b_MO_close 80 = .ok (.aload_n 0, 1) := by decide +kernel
theorem d_MO_close_81 : decode b_MO_close 81 = .ok (.getfield 18, 3) := by decide +kernel
theorem d_MO_close_84 : decode b_MO_close 84 = .ok (.iload 5, 2) := by decide +kernel
theorem d_MO_close_86 : decode b_MO_close 86 = .ok (.iaload, 1) := by decide +kernel
theorem d_MO_close_87 : decode b_MO_close 87 = .ok (.invokevirtual 101, 3) := by decide +kernel
theorem d_MO_close_90 : decode b_MO_close 90 = .ok (.iinc 5 1, 3) := by decide +kernel
theorem d_MO_close_93 : decode b_MO_close 93 = .ok (.goto (-24), 3) := by decide +kernel
theorem d_MO_close_96 : decode b_MO_close 96 = .ok (.iinc 4 1, 3) := by decide +kernel
theorem d_MO_close_99 : decode b_MO_close 99 = .ok (.goto (-58), 3) := by decide +kernel
theorem d_MO_close_102 : decode b_MO_close 102 = .ok (.aload_n 0, 1) := by decide +kernel
theorem d_MO_close_103 : decode b_MO_close 103 = .ok (.iload_n 1, 1) := by decide +kernel
theorem d_MO_close_104 : decode b_MO_close 104 = .ok (.invokevirtual 155, 3) := by decide +kernel
theorem d_MO_close_107 : decode b_MO_close 107 = .ok (.iload_n 2, 1) := by decide +kernel
theorem d_MO_close_108 : decode b_MO_close 108 = .ok (.isub, 1) := by decide +kernel
theorem d_MO_close_109 : decode b_MO_close 109 = .ok (.ireturn, 1) := by decide +kernel
